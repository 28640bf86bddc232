/-! the law: a call that throws is caught -/
theorem exNb {w : Cond} (h : (nestWord w && lw_tbl.contains w) = true) : w ∈ NB := by
  simp only [Bool.and_eq_true, List.contains_iff_mem] at h
  exact List.mem_filter.mpr ⟨h.2, h.1⟩
theorem ca0 : Cond.castable (gXc 0) (gXc 0) ∈ NB := exNb (by decide +kernel)
theorem ca1 : Cond.castable (gXc 1) (gXc 1) ∈ NB := exNb (by decide +kernel)
theorem ca2 : Cond.castable (gXc 2) (gXc 2) ∈ NB := exNb (by decide +kernel)
theorem ca3 : Cond.castable (gXc 3) (gXc 3) ∈ NB := exNb (by decide +kernel)
def hs_submit : gTb := [(0, 16, 19, 13), (0, 16, 23, 15), (0, 16, 27, 17)]
theorem cw_submit : Cond.codeWith y_Lw_submit b_Lw_submit 8 (some FieldType.int) hs_submit ∈ TB := exTb (by decide +kernel)
theorem lw_submit : Cond.methodLink "ProofGateLaw" 7 y_Ga_submit ∈ TB := exTb (by decide +kernel)
theorem cx_13 : Cond.classLink "ProofGateLaw" 13 "java/lang/IllegalArgumentException" ∈ TB := exTb (by decide +kernel)
theorem cx_15 : Cond.classLink "ProofGateLaw" 15 "java/lang/UnsupportedOperationException" ∈ TB := exTb (by decide +kernel)
theorem cx_17 : Cond.classLink "ProofGateLaw" 17 "java/lang/IllegalStateException" ∈ TB := exTb (by decide +kernel)
set_option maxRecDepth 100000 in
theorem w_Lw_submit_0 (l : Launch) (G : gG) (L : gLy) (M : gMe) {fs : List (Option Value)} (hL2 : L 2 = some (.inr (9, fs))) (hx : gEx l G) {Z1 : Nat → Prop} {L1 : gLy} {M1 : gMe} (i k f t s : Int32) (hM : gMetX l G y_Ga_submit b_Ga_submit 7 (some FieldType.int) (rmL 8 3 16) [.ref 2, .int i, .int k, .int f, .int t, .int s] L M Z1 0 L1 M1 3 16) (h2 : Z1 2) (h4 : Z1 450) : gMetH l G y_Lw_submit b_Lw_submit 8 (some FieldType.int) hs_submit (rmL 9 3 16) [.ref 2, .int i, .int k, .int f, .int t, .int s, .ref 450] L M Z1 (gPo (some (.int 1)) L1 M1) 3 16 := by
  refine gMetH_of (lv := [some (.ref 2), some (.int i), some (.int k), some (.int f), some (.int t), some (.int s), some (.ref 450), none]) (by decide) rfl (Nat.le_of_ble_eq_true rfl) rfl ?_
  refine V_al6 2 d_Lw_submit_0 rfl ?_
  refine V_iconst 3 (v := 0) (by decide) d_Lw_submit_2 rfl ?_
  refine V_al0 4 d_Lw_submit_3 rfl ?_
  refine V_il1 5 d_Lw_submit_4 rfl ?_
  refine V_il2 6 d_Lw_submit_5 rfl ?_
  refine V_il3 7 d_Lw_submit_6 rfl ?_
  refine V_il4 9 d_Lw_submit_7 rfl ?_
  refine V_il5 11 d_Lw_submit_9 rfl ?_
  refine V_catch 19 7 21 (as := [.int i, .int k, .int f, .int t, .int s]) (st := [.int 0, .ref 450]) (hp := []) (hq := [(0, 16, 23, 15), (0, 16, 27, 17)]) (a0 := 0) (b0 := 16) (ct := 13) hM cw_submit rfl (by decide) (by decide) (by rw [gX0]; exact cx_13) ca0 (fun t ht => by cases ht) ok_Ga_submit lw_submit im_Ga_submit se_Ga_submit hL2 kc_Ga (gRm_ok (by decide) (by decide)) rfl rfl (Nat.le_of_ble_eq_true rfl) d_Lw_submit_11 d_Lw_submit_19 (by decide) ⟨Nat.le_of_ble_eq_true rfl, Nat.le_of_ble_eq_true rfl⟩ (fun _ h => h) ⟨fun x hx => ?_, fun x hx => ?_⟩ rfl ?_
  · simp at hx; rcases hx with rfl | rfl; exact h2; exact h4
  · simp at hx; rw [hx]; exact h4
  refine V_iconst 22 (v := 1) (by decide) d_Lw_submit_21 rfl ?_
  exact V_iret rfl d_Lw_submit_22 ⟨rfl, rfl, rfl⟩
set_option maxRecDepth 100000 in
theorem w_Lw_submit_1 (l : Launch) (G : gG) (L : gLy) (M : gMe) {fs : List (Option Value)} (hL2 : L 2 = some (.inr (9, fs))) (hx : gEx l G) {Z1 : Nat → Prop} {L1 : gLy} {M1 : gMe} (i k f t s : Int32) (hM : gMetX l G y_Ga_submit b_Ga_submit 7 (some FieldType.int) (rmL 8 3 16) [.ref 2, .int i, .int k, .int f, .int t, .int s] L M Z1 1 L1 M1 3 16) (h2 : Z1 2) (h4 : Z1 450) : gMetH l G y_Lw_submit b_Lw_submit 8 (some FieldType.int) hs_submit (rmL 9 3 16) [.ref 2, .int i, .int k, .int f, .int t, .int s, .ref 450] L M Z1 (gPo (some (.int 2)) L1 M1) 3 16 := by
  refine gMetH_of (lv := [some (.ref 2), some (.int i), some (.int k), some (.int f), some (.int t), some (.int s), some (.ref 450), none]) (by decide) rfl (Nat.le_of_ble_eq_true rfl) rfl ?_
  refine V_al6 2 d_Lw_submit_0 rfl ?_
  refine V_iconst 3 (v := 0) (by decide) d_Lw_submit_2 rfl ?_
  refine V_al0 4 d_Lw_submit_3 rfl ?_
  refine V_il1 5 d_Lw_submit_4 rfl ?_
  refine V_il2 6 d_Lw_submit_5 rfl ?_
  refine V_il3 7 d_Lw_submit_6 rfl ?_
  refine V_il4 9 d_Lw_submit_7 rfl ?_
  refine V_il5 11 d_Lw_submit_9 rfl ?_
  refine V_catch 23 7 25 (as := [.int i, .int k, .int f, .int t, .int s]) (st := [.int 0, .ref 450]) (hp := [(0, 16, 19, 13)]) (hq := [(0, 16, 27, 17)]) (a0 := 0) (b0 := 16) (ct := 15) hM cw_submit rfl (by decide) (by decide) (by rw [gX1]; exact cx_15) ca1 (fun t ht => ?_) ok_Ga_submit lw_submit im_Ga_submit se_Ga_submit hL2 kc_Ga (gRm_ok (by decide) (by decide)) rfl rfl (Nat.le_of_ble_eq_true rfl) d_Lw_submit_11 d_Lw_submit_23 (by decide) ⟨Nat.le_of_ble_eq_true rfl, Nat.le_of_ble_eq_true rfl⟩ (fun _ h => h) ⟨fun x hx => ?_, fun x hx => ?_⟩ rfl ?_
  · simp at ht
    subst ht
    · exact ⟨by decide, "java/lang/IllegalArgumentException", cx_13, by rw [gX1]; exact hx.2.2.2 ("java/lang/UnsupportedOperationException", "java/lang/IllegalArgumentException") (by decide)⟩
  · simp at hx; rcases hx with rfl | rfl; exact h2; exact h4
  · simp at hx; rw [hx]; exact h4
  refine V_iconst 26 (v := 2) (by decide) d_Lw_submit_25 rfl ?_
  exact V_iret rfl d_Lw_submit_26 ⟨rfl, rfl, rfl⟩
set_option maxRecDepth 100000 in
theorem w_Lw_submit_2 (l : Launch) (G : gG) (L : gLy) (M : gMe) {fs : List (Option Value)} (hL2 : L 2 = some (.inr (9, fs))) (hx : gEx l G) {Z1 : Nat → Prop} {L1 : gLy} {M1 : gMe} (i k f t s : Int32) (hM : gMetX l G y_Ga_submit b_Ga_submit 7 (some FieldType.int) (rmL 8 3 16) [.ref 2, .int i, .int k, .int f, .int t, .int s] L M Z1 2 L1 M1 3 16) (h2 : Z1 2) (h4 : Z1 450) : gMetH l G y_Lw_submit b_Lw_submit 8 (some FieldType.int) hs_submit (rmL 9 3 16) [.ref 2, .int i, .int k, .int f, .int t, .int s, .ref 450] L M Z1 (gPo (some (.int 3)) L1 M1) 3 16 := by
  refine gMetH_of (lv := [some (.ref 2), some (.int i), some (.int k), some (.int f), some (.int t), some (.int s), some (.ref 450), none]) (by decide) rfl (Nat.le_of_ble_eq_true rfl) rfl ?_
  refine V_al6 2 d_Lw_submit_0 rfl ?_
  refine V_iconst 3 (v := 0) (by decide) d_Lw_submit_2 rfl ?_
  refine V_al0 4 d_Lw_submit_3 rfl ?_
  refine V_il1 5 d_Lw_submit_4 rfl ?_
  refine V_il2 6 d_Lw_submit_5 rfl ?_
  refine V_il3 7 d_Lw_submit_6 rfl ?_
  refine V_il4 9 d_Lw_submit_7 rfl ?_
  refine V_il5 11 d_Lw_submit_9 rfl ?_
  refine V_catch 27 7 29 (as := [.int i, .int k, .int f, .int t, .int s]) (st := [.int 0, .ref 450]) (hp := [(0, 16, 19, 13), (0, 16, 23, 15)]) (hq := []) (a0 := 0) (b0 := 16) (ct := 17) hM cw_submit rfl (by decide) (by decide) (by rw [gX2]; exact cx_17) ca2 (fun t ht => ?_) ok_Ga_submit lw_submit im_Ga_submit se_Ga_submit hL2 kc_Ga (gRm_ok (by decide) (by decide)) rfl rfl (Nat.le_of_ble_eq_true rfl) d_Lw_submit_11 d_Lw_submit_27 (by decide) ⟨Nat.le_of_ble_eq_true rfl, Nat.le_of_ble_eq_true rfl⟩ (fun _ h => h) ⟨fun x hx => ?_, fun x hx => ?_⟩ rfl ?_
  · simp at ht
    rcases ht with rfl | rfl
    · exact ⟨by decide, "java/lang/IllegalArgumentException", cx_13, by rw [gX2]; exact hx.2.2.2 ("java/lang/IllegalStateException", "java/lang/IllegalArgumentException") (by decide)⟩
    · exact ⟨by decide, "java/lang/UnsupportedOperationException", cx_15, by rw [gX2]; exact hx.2.2.2 ("java/lang/IllegalStateException", "java/lang/UnsupportedOperationException") (by decide)⟩
  · simp at hx; rcases hx with rfl | rfl; exact h2; exact h4
  · simp at hx; rw [hx]; exact h4
  refine V_iconst 30 (v := 3) (by decide) d_Lw_submit_29 rfl ?_
  exact V_iret rfl d_Lw_submit_30 ⟨rfl, rfl, rfl⟩
def hs_revoke : gTb := [(0, 17, 20, 23), (0, 17, 24, 15), (0, 17, 28, 17)]
theorem cw_revoke : Cond.codeWith y_Lw_revoke b_Lw_revoke 5 (some FieldType.int) hs_revoke ∈ TB := exTb (by decide +kernel)
theorem lw_revoke : Cond.methodLink "ProofGateLaw" 19 y_Ga_revoke ∈ TB := exTb (by decide +kernel)
theorem cx_23 : Cond.classLink "ProofGateLaw" 23 "java/util/NoSuchElementException" ∈ TB := exTb (by decide +kernel)
set_option maxRecDepth 100000 in
theorem w_Lw_revoke_3 (l : Launch) (G : gG) (L : gLy) (M : gMe) {fs : List (Option Value)} (hL2 : L 2 = some (.inr (9, fs))) (hx : gEx l G) {Z1 : Nat → Prop} {L1 : gLy} {M1 : gMe} (p x : Int32) (hM : gMetX l G y_Ga_revoke b_Ga_revoke 4 (some FieldType.boolean) (rmL 7 1 6) [.ref 2, .int p, .int x] L M Z1 3 L1 M1 1 6) (h2 : Z1 2) (h4 : Z1 450) : gMetH l G y_Lw_revoke b_Lw_revoke 5 (some FieldType.int) hs_revoke (rmL 8 1 6) [.ref 2, .int p, .int x, .ref 450] L M Z1 (gPo (some (.int 1)) L1 M1) 1 6 := by
  refine gMetH_of (lv := [some (.ref 2), some (.int p), some (.int x), some (.ref 450), none]) (by decide) rfl (Nat.le_of_ble_eq_true rfl) rfl ?_
  refine V_al3 1 d_Lw_revoke_0 rfl ?_
  refine V_iconst 2 (v := 0) (by decide) d_Lw_revoke_1 rfl ?_
  refine V_al0 3 d_Lw_revoke_2 rfl ?_
  refine V_il1 4 d_Lw_revoke_3 rfl ?_
  refine V_il2 5 d_Lw_revoke_4 rfl ?_
  refine V_catch 20 4 22 (as := [.int p, .int x]) (st := [.int 0, .ref 450]) (hp := []) (hq := [(0, 17, 24, 15), (0, 17, 28, 17)]) (a0 := 0) (b0 := 17) (ct := 23) hM cw_revoke rfl (by decide) (by decide) (by rw [gX3]; exact cx_23) ca3 (fun t ht => by cases ht) ok_Ga_revoke lw_revoke im_Ga_revoke se_Ga_revoke hL2 kc_Ga (gRm_ok (by decide) (by decide)) rfl rfl (Nat.le_of_ble_eq_true rfl) d_Lw_revoke_5 d_Lw_revoke_20 (by decide) ⟨Nat.le_of_ble_eq_true rfl, Nat.le_of_ble_eq_true rfl⟩ (fun _ h => h) ⟨fun x hx => ?_, fun x hx => ?_⟩ rfl ?_
  · simp at hx; rcases hx with rfl | rfl; exact h2; exact h4
  · simp at hx; rw [hx]; exact h4
  refine V_iconst 23 (v := 1) (by decide) d_Lw_revoke_22 rfl ?_
  exact V_iret rfl d_Lw_revoke_23 ⟨rfl, rfl, rfl⟩
set_option maxRecDepth 100000 in
theorem w_Lw_revoke_1 (l : Launch) (G : gG) (L : gLy) (M : gMe) {fs : List (Option Value)} (hL2 : L 2 = some (.inr (9, fs))) (hx : gEx l G) {Z1 : Nat → Prop} {L1 : gLy} {M1 : gMe} (p x : Int32) (hM : gMetX l G y_Ga_revoke b_Ga_revoke 4 (some FieldType.boolean) (rmL 7 1 6) [.ref 2, .int p, .int x] L M Z1 1 L1 M1 1 6) (h2 : Z1 2) (h4 : Z1 450) : gMetH l G y_Lw_revoke b_Lw_revoke 5 (some FieldType.int) hs_revoke (rmL 8 1 6) [.ref 2, .int p, .int x, .ref 450] L M Z1 (gPo (some (.int 2)) L1 M1) 1 6 := by
  refine gMetH_of (lv := [some (.ref 2), some (.int p), some (.int x), some (.ref 450), none]) (by decide) rfl (Nat.le_of_ble_eq_true rfl) rfl ?_
  refine V_al3 1 d_Lw_revoke_0 rfl ?_
  refine V_iconst 2 (v := 0) (by decide) d_Lw_revoke_1 rfl ?_
  refine V_al0 3 d_Lw_revoke_2 rfl ?_
  refine V_il1 4 d_Lw_revoke_3 rfl ?_
  refine V_il2 5 d_Lw_revoke_4 rfl ?_
  refine V_catch 24 4 26 (as := [.int p, .int x]) (st := [.int 0, .ref 450]) (hp := [(0, 17, 20, 23)]) (hq := [(0, 17, 28, 17)]) (a0 := 0) (b0 := 17) (ct := 15) hM cw_revoke rfl (by decide) (by decide) (by rw [gX1]; exact cx_15) ca1 (fun t ht => ?_) ok_Ga_revoke lw_revoke im_Ga_revoke se_Ga_revoke hL2 kc_Ga (gRm_ok (by decide) (by decide)) rfl rfl (Nat.le_of_ble_eq_true rfl) d_Lw_revoke_5 d_Lw_revoke_24 (by decide) ⟨Nat.le_of_ble_eq_true rfl, Nat.le_of_ble_eq_true rfl⟩ (fun _ h => h) ⟨fun x hx => ?_, fun x hx => ?_⟩ rfl ?_
  · simp at ht
    subst ht
    · exact ⟨by decide, "java/util/NoSuchElementException", cx_23, by rw [gX1]; exact hx.2.2.2 ("java/lang/UnsupportedOperationException", "java/util/NoSuchElementException") (by decide)⟩
  · simp at hx; rcases hx with rfl | rfl; exact h2; exact h4
  · simp at hx; rw [hx]; exact h4
  refine V_iconst 27 (v := 2) (by decide) d_Lw_revoke_26 rfl ?_
  exact V_iret rfl d_Lw_revoke_27 ⟨rfl, rfl, rfl⟩
set_option maxRecDepth 100000 in
theorem w_Lw_revoke_2 (l : Launch) (G : gG) (L : gLy) (M : gMe) {fs : List (Option Value)} (hL2 : L 2 = some (.inr (9, fs))) (hx : gEx l G) {Z1 : Nat → Prop} {L1 : gLy} {M1 : gMe} (p x : Int32) (hM : gMetX l G y_Ga_revoke b_Ga_revoke 4 (some FieldType.boolean) (rmL 7 1 6) [.ref 2, .int p, .int x] L M Z1 2 L1 M1 1 6) (h2 : Z1 2) (h4 : Z1 450) : gMetH l G y_Lw_revoke b_Lw_revoke 5 (some FieldType.int) hs_revoke (rmL 8 1 6) [.ref 2, .int p, .int x, .ref 450] L M Z1 (gPo (some (.int 3)) L1 M1) 1 6 := by
  refine gMetH_of (lv := [some (.ref 2), some (.int p), some (.int x), some (.ref 450), none]) (by decide) rfl (Nat.le_of_ble_eq_true rfl) rfl ?_
  refine V_al3 1 d_Lw_revoke_0 rfl ?_
  refine V_iconst 2 (v := 0) (by decide) d_Lw_revoke_1 rfl ?_
  refine V_al0 3 d_Lw_revoke_2 rfl ?_
  refine V_il1 4 d_Lw_revoke_3 rfl ?_
  refine V_il2 5 d_Lw_revoke_4 rfl ?_
  refine V_catch 28 4 30 (as := [.int p, .int x]) (st := [.int 0, .ref 450]) (hp := [(0, 17, 20, 23), (0, 17, 24, 15)]) (hq := []) (a0 := 0) (b0 := 17) (ct := 17) hM cw_revoke rfl (by decide) (by decide) (by rw [gX2]; exact cx_17) ca2 (fun t ht => ?_) ok_Ga_revoke lw_revoke im_Ga_revoke se_Ga_revoke hL2 kc_Ga (gRm_ok (by decide) (by decide)) rfl rfl (Nat.le_of_ble_eq_true rfl) d_Lw_revoke_5 d_Lw_revoke_28 (by decide) ⟨Nat.le_of_ble_eq_true rfl, Nat.le_of_ble_eq_true rfl⟩ (fun _ h => h) ⟨fun x hx => ?_, fun x hx => ?_⟩ rfl ?_
  · simp at ht
    rcases ht with rfl | rfl
    · exact ⟨by decide, "java/util/NoSuchElementException", cx_23, by rw [gX2]; exact hx.2.2.2 ("java/lang/IllegalStateException", "java/util/NoSuchElementException") (by decide)⟩
    · exact ⟨by decide, "java/lang/UnsupportedOperationException", cx_15, by rw [gX2]; exact hx.2.2.2 ("java/lang/IllegalStateException", "java/lang/UnsupportedOperationException") (by decide)⟩
  · simp at hx; rcases hx with rfl | rfl; exact h2; exact h4
  · simp at hx; rw [hx]; exact h4
  refine V_iconst 31 (v := 3) (by decide) d_Lw_revoke_30 rfl ?_
  exact V_iret rfl d_Lw_revoke_31 ⟨rfl, rfl, rfl⟩
def hs_request : gTb := [(0, 16, 19, 13), (0, 16, 23, 23), (0, 16, 27, 15), (0, 16, 31, 17)]
theorem cw_request : Cond.codeWith y_Lw_request b_Lw_request 8 (some FieldType.int) hs_request ∈ TB := exTb (by decide +kernel)
theorem lw_request : Cond.methodLink "ProofGateLaw" 25 y_Ga_request ∈ TB := exTb (by decide +kernel)
set_option maxRecDepth 100000 in
theorem w_Lw_request_0 (l : Launch) (G : gG) (L : gLy) (M : gMe) {fs : List (Option Value)} (hL2 : L 2 = some (.inr (9, fs))) (hx : gEx l G) {Z1 : Nat → Prop} {L1 : gLy} {M1 : gMe} (p r o v gv : Int32) (hM : gMetX l G y_Ga_request b_Ga_request 7 (some FieldType.int) (rmL 50 1 6) [.ref 2, .int p, .int r, .int o, .int v, .int gv] L M Z1 0 L1 M1 1 6) (h2 : Z1 2) (h4 : Z1 450) : gMetH l G y_Lw_request b_Lw_request 8 (some FieldType.int) hs_request (rmL 51 1 6) [.ref 2, .int p, .int r, .int o, .int v, .int gv, .ref 450] L M Z1 (gPo (some (.int 1)) L1 M1) 1 6 := by
  refine gMetH_of (lv := [some (.ref 2), some (.int p), some (.int r), some (.int o), some (.int v), some (.int gv), some (.ref 450), none]) (by decide) rfl (Nat.le_of_ble_eq_true rfl) rfl ?_
  refine V_al6 2 d_Lw_request_0 rfl ?_
  refine V_iconst 3 (v := 0) (by decide) d_Lw_request_2 rfl ?_
  refine V_al0 4 d_Lw_request_3 rfl ?_
  refine V_il1 5 d_Lw_request_4 rfl ?_
  refine V_il2 6 d_Lw_request_5 rfl ?_
  refine V_il3 7 d_Lw_request_6 rfl ?_
  refine V_il4 9 d_Lw_request_7 rfl ?_
  refine V_il5 11 d_Lw_request_9 rfl ?_
  refine V_catch 19 7 21 (as := [.int p, .int r, .int o, .int v, .int gv]) (st := [.int 0, .ref 450]) (hp := []) (hq := [(0, 16, 23, 23), (0, 16, 27, 15), (0, 16, 31, 17)]) (a0 := 0) (b0 := 16) (ct := 13) hM cw_request rfl (by decide) (by decide) (by rw [gX0]; exact cx_13) ca0 (fun t ht => by cases ht) ok_Ga_request lw_request im_Ga_request se_Ga_request hL2 kc_Ga (gRm_ok (by decide) (by decide)) rfl rfl (Nat.le_of_ble_eq_true rfl) d_Lw_request_11 d_Lw_request_19 (by decide) ⟨Nat.le_of_ble_eq_true rfl, Nat.le_of_ble_eq_true rfl⟩ (fun _ h => h) ⟨fun x hx => ?_, fun x hx => ?_⟩ rfl ?_
  · simp at hx; rcases hx with rfl | rfl; exact h2; exact h4
  · simp at hx; rw [hx]; exact h4
  refine V_iconst 22 (v := 1) (by decide) d_Lw_request_21 rfl ?_
  exact V_iret rfl d_Lw_request_22 ⟨rfl, rfl, rfl⟩
set_option maxRecDepth 100000 in
theorem w_Lw_request_3 (l : Launch) (G : gG) (L : gLy) (M : gMe) {fs : List (Option Value)} (hL2 : L 2 = some (.inr (9, fs))) (hx : gEx l G) {Z1 : Nat → Prop} {L1 : gLy} {M1 : gMe} (p r o v gv : Int32) (hM : gMetX l G y_Ga_request b_Ga_request 7 (some FieldType.int) (rmL 50 1 6) [.ref 2, .int p, .int r, .int o, .int v, .int gv] L M Z1 3 L1 M1 1 6) (h2 : Z1 2) (h4 : Z1 450) : gMetH l G y_Lw_request b_Lw_request 8 (some FieldType.int) hs_request (rmL 51 1 6) [.ref 2, .int p, .int r, .int o, .int v, .int gv, .ref 450] L M Z1 (gPo (some (.int 2)) L1 M1) 1 6 := by
  refine gMetH_of (lv := [some (.ref 2), some (.int p), some (.int r), some (.int o), some (.int v), some (.int gv), some (.ref 450), none]) (by decide) rfl (Nat.le_of_ble_eq_true rfl) rfl ?_
  refine V_al6 2 d_Lw_request_0 rfl ?_
  refine V_iconst 3 (v := 0) (by decide) d_Lw_request_2 rfl ?_
  refine V_al0 4 d_Lw_request_3 rfl ?_
  refine V_il1 5 d_Lw_request_4 rfl ?_
  refine V_il2 6 d_Lw_request_5 rfl ?_
  refine V_il3 7 d_Lw_request_6 rfl ?_
  refine V_il4 9 d_Lw_request_7 rfl ?_
  refine V_il5 11 d_Lw_request_9 rfl ?_
  refine V_catch 23 7 25 (as := [.int p, .int r, .int o, .int v, .int gv]) (st := [.int 0, .ref 450]) (hp := [(0, 16, 19, 13)]) (hq := [(0, 16, 27, 15), (0, 16, 31, 17)]) (a0 := 0) (b0 := 16) (ct := 23) hM cw_request rfl (by decide) (by decide) (by rw [gX3]; exact cx_23) ca3 (fun t ht => ?_) ok_Ga_request lw_request im_Ga_request se_Ga_request hL2 kc_Ga (gRm_ok (by decide) (by decide)) rfl rfl (Nat.le_of_ble_eq_true rfl) d_Lw_request_11 d_Lw_request_23 (by decide) ⟨Nat.le_of_ble_eq_true rfl, Nat.le_of_ble_eq_true rfl⟩ (fun _ h => h) ⟨fun x hx => ?_, fun x hx => ?_⟩ rfl ?_
  · simp at ht
    subst ht
    · exact ⟨by decide, "java/lang/IllegalArgumentException", cx_13, by rw [gX3]; exact hx.2.2.2 ("java/util/NoSuchElementException", "java/lang/IllegalArgumentException") (by decide)⟩
  · simp at hx; rcases hx with rfl | rfl; exact h2; exact h4
  · simp at hx; rw [hx]; exact h4
  refine V_iconst 26 (v := 2) (by decide) d_Lw_request_25 rfl ?_
  exact V_iret rfl d_Lw_request_26 ⟨rfl, rfl, rfl⟩
set_option maxRecDepth 100000 in
theorem w_Lw_request_1 (l : Launch) (G : gG) (L : gLy) (M : gMe) {fs : List (Option Value)} (hL2 : L 2 = some (.inr (9, fs))) (hx : gEx l G) {Z1 : Nat → Prop} {L1 : gLy} {M1 : gMe} (p r o v gv : Int32) (hM : gMetX l G y_Ga_request b_Ga_request 7 (some FieldType.int) (rmL 50 1 6) [.ref 2, .int p, .int r, .int o, .int v, .int gv] L M Z1 1 L1 M1 1 6) (h2 : Z1 2) (h4 : Z1 450) : gMetH l G y_Lw_request b_Lw_request 8 (some FieldType.int) hs_request (rmL 51 1 6) [.ref 2, .int p, .int r, .int o, .int v, .int gv, .ref 450] L M Z1 (gPo (some (.int 3)) L1 M1) 1 6 := by
  refine gMetH_of (lv := [some (.ref 2), some (.int p), some (.int r), some (.int o), some (.int v), some (.int gv), some (.ref 450), none]) (by decide) rfl (Nat.le_of_ble_eq_true rfl) rfl ?_
  refine V_al6 2 d_Lw_request_0 rfl ?_
  refine V_iconst 3 (v := 0) (by decide) d_Lw_request_2 rfl ?_
  refine V_al0 4 d_Lw_request_3 rfl ?_
  refine V_il1 5 d_Lw_request_4 rfl ?_
  refine V_il2 6 d_Lw_request_5 rfl ?_
  refine V_il3 7 d_Lw_request_6 rfl ?_
  refine V_il4 9 d_Lw_request_7 rfl ?_
  refine V_il5 11 d_Lw_request_9 rfl ?_
  refine V_catch 27 7 29 (as := [.int p, .int r, .int o, .int v, .int gv]) (st := [.int 0, .ref 450]) (hp := [(0, 16, 19, 13), (0, 16, 23, 23)]) (hq := [(0, 16, 31, 17)]) (a0 := 0) (b0 := 16) (ct := 15) hM cw_request rfl (by decide) (by decide) (by rw [gX1]; exact cx_15) ca1 (fun t ht => ?_) ok_Ga_request lw_request im_Ga_request se_Ga_request hL2 kc_Ga (gRm_ok (by decide) (by decide)) rfl rfl (Nat.le_of_ble_eq_true rfl) d_Lw_request_11 d_Lw_request_27 (by decide) ⟨Nat.le_of_ble_eq_true rfl, Nat.le_of_ble_eq_true rfl⟩ (fun _ h => h) ⟨fun x hx => ?_, fun x hx => ?_⟩ rfl ?_
  · simp at ht
    rcases ht with rfl | rfl
    · exact ⟨by decide, "java/lang/IllegalArgumentException", cx_13, by rw [gX1]; exact hx.2.2.2 ("java/lang/UnsupportedOperationException", "java/lang/IllegalArgumentException") (by decide)⟩
    · exact ⟨by decide, "java/util/NoSuchElementException", cx_23, by rw [gX1]; exact hx.2.2.2 ("java/lang/UnsupportedOperationException", "java/util/NoSuchElementException") (by decide)⟩
  · simp at hx; rcases hx with rfl | rfl; exact h2; exact h4
  · simp at hx; rw [hx]; exact h4
  refine V_iconst 30 (v := 3) (by decide) d_Lw_request_29 rfl ?_
  exact V_iret rfl d_Lw_request_30 ⟨rfl, rfl, rfl⟩
set_option maxRecDepth 100000 in
theorem w_Lw_request_2 (l : Launch) (G : gG) (L : gLy) (M : gMe) {fs : List (Option Value)} (hL2 : L 2 = some (.inr (9, fs))) (hx : gEx l G) {Z1 : Nat → Prop} {L1 : gLy} {M1 : gMe} (p r o v gv : Int32) (hM : gMetX l G y_Ga_request b_Ga_request 7 (some FieldType.int) (rmL 50 1 6) [.ref 2, .int p, .int r, .int o, .int v, .int gv] L M Z1 2 L1 M1 1 6) (h2 : Z1 2) (h4 : Z1 450) : gMetH l G y_Lw_request b_Lw_request 8 (some FieldType.int) hs_request (rmL 51 1 6) [.ref 2, .int p, .int r, .int o, .int v, .int gv, .ref 450] L M Z1 (gPo (some (.int 4)) L1 M1) 1 6 := by
  refine gMetH_of (lv := [some (.ref 2), some (.int p), some (.int r), some (.int o), some (.int v), some (.int gv), some (.ref 450), none]) (by decide) rfl (Nat.le_of_ble_eq_true rfl) rfl ?_
  refine V_al6 2 d_Lw_request_0 rfl ?_
  refine V_iconst 3 (v := 0) (by decide) d_Lw_request_2 rfl ?_
  refine V_al0 4 d_Lw_request_3 rfl ?_
  refine V_il1 5 d_Lw_request_4 rfl ?_
  refine V_il2 6 d_Lw_request_5 rfl ?_
  refine V_il3 7 d_Lw_request_6 rfl ?_
  refine V_il4 9 d_Lw_request_7 rfl ?_
  refine V_il5 11 d_Lw_request_9 rfl ?_
  refine V_catch 31 7 33 (as := [.int p, .int r, .int o, .int v, .int gv]) (st := [.int 0, .ref 450]) (hp := [(0, 16, 19, 13), (0, 16, 23, 23), (0, 16, 27, 15)]) (hq := []) (a0 := 0) (b0 := 16) (ct := 17) hM cw_request rfl (by decide) (by decide) (by rw [gX2]; exact cx_17) ca2 (fun t ht => ?_) ok_Ga_request lw_request im_Ga_request se_Ga_request hL2 kc_Ga (gRm_ok (by decide) (by decide)) rfl rfl (Nat.le_of_ble_eq_true rfl) d_Lw_request_11 d_Lw_request_31 (by decide) ⟨Nat.le_of_ble_eq_true rfl, Nat.le_of_ble_eq_true rfl⟩ (fun _ h => h) ⟨fun x hx => ?_, fun x hx => ?_⟩ rfl ?_
  · simp at ht
    rcases ht with rfl | rfl | rfl
    · exact ⟨by decide, "java/lang/IllegalArgumentException", cx_13, by rw [gX2]; exact hx.2.2.2 ("java/lang/IllegalStateException", "java/lang/IllegalArgumentException") (by decide)⟩
    · exact ⟨by decide, "java/util/NoSuchElementException", cx_23, by rw [gX2]; exact hx.2.2.2 ("java/lang/IllegalStateException", "java/util/NoSuchElementException") (by decide)⟩
    · exact ⟨by decide, "java/lang/UnsupportedOperationException", cx_15, by rw [gX2]; exact hx.2.2.2 ("java/lang/IllegalStateException", "java/lang/UnsupportedOperationException") (by decide)⟩
  · simp at hx; rcases hx with rfl | rfl; exact h2; exact h4
  · simp at hx; rw [hx]; exact h4
  refine V_iconst 34 (v := 4) (by decide) d_Lw_request_33 rfl ?_
  exact V_iret rfl d_Lw_request_34 ⟨rfl, rfl, rfl⟩

/-! the list of credentials, and the credentials; facts are copied -/
section gCast
variable {l : Launch} {G : gG} {y : MethodName} {cc : ByteArray} {nL : Nat} {ret : Option FieldType} {R : Room} {mc ms : Nat} {Z : Nat → Prop} {post : Option Value → gLy → gMe → Prop} {L : gLy} {M : gMe} {cells slots : Nat} {lv : List (Option Value)} {pc : Nat} {st : List Value}
theorem V_cast (q : Nat) {a ci N index : Nat} {C nm : String} {T : u_T} {ty : Nat → FieldType} {fs : List (Option Value)} (hL : L a = some (.inr (ci, fs))) (hc : gCl ci C T N ty) (hl : Cond.classLink y.cls index nm ∈ TB) (hca : Cond.castable C nm ∈ NB) (d : decode cc pc = .ok (.checkcast index, 3)) (hq : pc + 3 = q)
    (kk : V l G y cc nL ret R mc ms Z post L M cells slots lv q (.ref a :: st)) : V l G y cc nL ret R mc ms Z post L M cells slots lv pc (.ref a :: st) := by
  subst hq
  intro p e s m args below meth c r0 r H locs ls hC hZ hW hR hlo hls
  exact va_castY hC.1 hC.2.1 hC.2.2.2.2.1 (hW.t hl) (hW.2.1 _ hca) (va_recv hW.2.2.1 (gP1 (hR.1 a _ hL).1) hc.1 (q0 := 0) rfl) d (kk p e s m args below meth c r0 r H locs ls hC hZ hW hR hlo hls)
end gCast
theorem ca_Cr : Cond.castable "ProofGate$Credential" "ProofGate$Credential" ∈ NB := nb5 181 rfl rfl
theorem ca_CrO : Cond.castable "ProofGate$Credential" "java/lang/Object" ∈ NB := nb5 194 rfl rfl
theorem sf_AL_modCount : Cond.sameField "java/util/ArrayList" "java/util/AbstractList" "modCount" "I" ∈ TB := tb1 59 rfl rfl
/-- the place of the n-th credential -/
def cP (n : Nat) : Nat := 200 + 2 * n
def lsF (c : Nat) : Nat → Option Nat := fun i => if i < c then some (cP (i + 1)) else none
/-- the list holds c credentials -/
def gLH (L : gLy) (c : Nat) : Prop := ∃ e cap : Nat, L 5 = some (.inr (0, [some (.ref e), none, none])) ∧ (0 < c → L e = some (.inl (4, cap, some (some (lsF c)))) ∧ c ≤ cap ∧ cap < 100) ∧ ∀ n, 1 ≤ n → n ≤ c → gLR L (cP n) (cP n + 1)
set_option maxRecDepth 100000 in
set_option maxHeartbeats 4000000 in
theorem c_AL_size (l : Launch) (G : gG) (L : gLy) (M : gMe) (c : Nat) (hH : gLH L c) : gMet l G y_AL_size b_AL_size 1 (some FieldType.int) (rmL 1 0 0) [.ref 5] L M gAll (gPo (some (.int (M 5 1))) L M) 0 0 := by
  obtain ⟨e, cap, h5, hE, hRc⟩ := hH
  refine gMet_of (lv := [some (.ref 5)]) (by decide) rfl (Nat.le_of_ble_eq_true rfl) rfl ?_
  refine V_al0 1 d_AL_size_0 rfl ?_
  refine V_geti 4 1 h5 kc_AL (by decide) fl_AL_48 (Or.inl rfl) rfl d_AL_size_1 rfl ?_
  exact V_iret rfl d_AL_size_4 ⟨rfl, rfl, rfl⟩
set_option maxRecDepth 100000 in
set_option maxHeartbeats 4000000 in
theorem c_Pr_checkIndex (l : Launch) (G : gG) (L : gLy) (M : gMe) (i n : Nat) (hi : i < n) (hn : n < 1000) : gMet l G y_Pr_checkIndex b_Pr_checkIndex 3 (some FieldType.int) (rmL 1 0 0) [.int (nI i), .int (nI n), .null] L M gAll (gPo (some (.int (nI i))) L M) 0 0 := by
  refine gMet_of (lv := [some (.int (nI i)), some (.int (nI n)), some (.null)]) (by decide) rfl (Nat.le_of_ble_eq_true rfl) rfl ?_
  refine V_il0 1 d_Pr_checkIndex_0 rfl ?_
  refine V_if_lt 9 4 d_Pr_checkIndex_1 (by decide) rfl (fun h9 => absurd h9 (nI_pos (by omega))) (fun _ => ?_)
  refine V_il0 5 d_Pr_checkIndex_4 rfl ?_
  refine V_il1 6 d_Pr_checkIndex_5 rfl ?_
  refine V_icmp_lt 16 9 d_Pr_checkIndex_6 (by decide) rfl (fun _ => ?_) (fun h9 => absurd (nI_lt hi (by omega)) h9)
  refine V_il0 17 d_Pr_checkIndex_16 rfl ?_
  exact V_iret rfl d_Pr_checkIndex_17 ⟨rfl, rfl, rfl⟩
set_option maxRecDepth 100000 in
set_option maxHeartbeats 4000000 in
theorem c_Ob_checkIndex (l : Launch) (G : gG) (L : gLy) (M : gMe) (i n : Nat) (hi : i < n) (hn : n < 1000) : gMet l G y_Ob_checkIndex b_Ob_checkIndex 2 (some FieldType.int) (rmL 2 0 0) [.int (nI i), .int (nI n)] L M gAll (gPo (some (.int (nI i))) L M) 0 0 := by
  refine gMet_of (lv := [some (.int (nI i)), some (.int (nI n))]) (by decide) rfl (Nat.le_of_ble_eq_true rfl) rfl ?_
  refine V_il0 1 d_Ob_checkIndex_0 rfl ?_
  refine V_il1 2 d_Ob_checkIndex_1 rfl ?_
  refine V_null 3 d_Ob_checkIndex_2 rfl ?_
  refine V_cS1 6 (c_Pr_checkIndex l G _ _ i n hi hn) ok_Pr_checkIndex ml_Ob_105 st_Pr_checkIndex (gRm_ok (by decide) (by decide)) rfl rfl (Nat.le_of_ble_eq_true rfl) d_Ob_checkIndex_3 ⟨Nat.le_of_ble_eq_true rfl, Nat.le_of_ble_eq_true rfl⟩ rfl ?_
  exact V_iret rfl d_Ob_checkIndex_6 ⟨rfl, rfl, rfl⟩
set_option maxRecDepth 100000 in
set_option maxHeartbeats 4000000 in
theorem c_AL_elementData (l : Launch) (G : gG) (L : gLy) (M : gMe) (c : Nat) (hH : gLH L c) (i : Nat) (hi : i < c) : gMet l G y_AL_elementData b_AL_elementData 2 (some (FieldType.object "java/lang/Object")) (rmL 1 0 0) [.ref 5, .int (nI i)] L M gAll (gPo (some (.ref (cP (i + 1)))) L M) 0 0 := by
  obtain ⟨e, cap, h5, hE, hRc⟩ := hH
  have hcap : cap < 2 ^ 31 := by have := (hE (by omega)).2.2; omega
  refine gMet_of (lv := [some (.ref 5), some (.int (nI i))]) (by decide) rfl (Nat.le_of_ble_eq_true rfl) rfl ?_
  refine V_al0 1 d_AL_elementData_0 rfl ?_
  refine V_getr 4 0 h5 kc_AL (by decide) fl_AL_9 (Or.inl rfl) rfl d_AL_elementData_1 rfl ?_
  refine V_il1 5 d_AL_elementData_4 rfl ?_
  refine V_aaln 6 (i) (cP (i + 1)) "java/lang/Object" (hE (by omega)).1 rfl rfl (by have := (hE (by omega)).2.1; omega) hcap (if_pos hi) d_AL_elementData_5 rfl ?_
  exact V_aret rfl (Or.inl ⟨_, rfl⟩) (Or.inr ⟨_, rfl⟩) d_AL_elementData_6 ⟨rfl, rfl, rfl⟩
set_option maxRecDepth 100000 in
set_option maxHeartbeats 4000000 in
theorem c_AL_get (l : Launch) (G : gG) (L : gLy) (M : gMe) (c : Nat) (hH : gLH L c) (hs : M 5 1 = nI c) (hc : c < 100) (i : Nat) (hi : i < c) : gMet l G y_AL_get b_AL_get 2 (some (FieldType.object "java/lang/Object")) (rmL 3 0 0) [.ref 5, .int (nI i)] L M gAll (gPo (some (.ref (cP (i + 1)))) L M) 0 0 := by
  have hH9 := hH
  obtain ⟨e, cap, h5, hE, hRc⟩ := hH
  have hH := hH9
  refine gMet_of (lv := [some (.ref 5), some (.int (nI i))]) (by decide) rfl (Nat.le_of_ble_eq_true rfl) rfl ?_
  refine V_il1 1 d_AL_get_0 rfl ?_
  refine V_al0 2 d_AL_get_1 rfl ?_
  refine V_geti 5 1 h5 kc_AL (by decide) fl_AL_48 (Or.inl rfl) rfl d_AL_get_2 rfl ?_
  refine V_topi hs ?_
  refine V_cS1 8 (c_Ob_checkIndex l G _ _ i c hi (by omega)) ok_Ob_checkIndex ml_AL_118 st_Ob_checkIndex (gRm_ok (by decide) (by decide)) rfl rfl (Nat.le_of_ble_eq_true rfl) d_AL_get_5 ⟨Nat.le_of_ble_eq_true rfl, Nat.le_of_ble_eq_true rfl⟩ rfl ?_
  refine V_pop 9 rfl d_AL_get_8 rfl ?_
  refine V_al0 10 d_AL_get_9 rfl ?_
  refine V_il1 11 d_AL_get_10 rfl ?_
  refine V_cV1 14 (c_AL_elementData l G _ _ c hH i hi) ok_AL_elementData ml_AL_123 im_AL_elementData se_AL_elementData h5 kc_AL (gRm_ok (by decide) (by decide)) rfl rfl (Nat.le_of_ble_eq_true rfl) d_AL_get_11 ⟨Nat.le_of_ble_eq_true rfl, Nat.le_of_ble_eq_true rfl⟩ rfl ?_
  exact V_aret rfl (Or.inl ⟨_, rfl⟩) (Or.inr ⟨_, rfl⟩) d_AL_get_14 ⟨rfl, rfl, rfl⟩
set_option maxRecDepth 100000 in
set_option maxHeartbeats 4000000 in
theorem c_Cs_count (l : Launch) (G : gG) (L : gLy) (M : gMe) (hL : gLC L) (c : Nat) (hH : gLH L c) : gMet l G y_Cs_count b_Cs_count 1 (some FieldType.int) (rmL 2 0 0) [.ref 4] L M gAll (gPo (some (.int (M 5 1))) L M) 0 0 := by
  have hH9 := hH
  obtain ⟨e, cap, h5, hE, hRc⟩ := hH
  have hH := hH9
  refine gMet_of (lv := [some (.ref 4)]) (by decide) rfl (Nat.le_of_ble_eq_true rfl) rfl ?_
  refine V_al0 1 d_Cs_count_0 rfl ?_
  refine V_getr 4 0 (lC4 hL) kc_Cs (by decide) fl_Cs_10 (Or.inl rfl) rfl d_Cs_count_1 rfl ?_
  refine V_cV1 7 (c_AL_size l G _ _ c hH) ok_AL_size ml_Cs_16 im_AL_size se_AL_size h5 kc_AL (gRm_ok (by decide) (by decide)) rfl rfl (Nat.le_of_ble_eq_true rfl) d_Cs_count_4 ⟨Nat.le_of_ble_eq_true rfl, Nat.le_of_ble_eq_true rfl⟩ rfl ?_
  exact V_iret rfl d_Cs_count_7 ⟨rfl, rfl, rfl⟩
set_option maxRecDepth 100000 in
set_option maxHeartbeats 4000000 in
theorem c_Cs_letTimeGoOn (l : Launch) (G : gG) (L : gLy) (M : gMe) (hL : gLC L) (n : Int32) : gMet l G y_Cs_letTimeGoOn b_Cs_letTimeGoOn 2 (some FieldType.int) (rmL 1 0 0) [.ref 4, .int n] L M gAll (gPo (some (.int (M 4 1 + n))) L (gst M 4 1 (M 4 1 + n))) 0 0 := by
  refine gMet_of (lv := [some (.ref 4), some (.int n)]) (by decide) rfl (Nat.le_of_ble_eq_true rfl) rfl ?_
  refine V_al0 1 d_Cs_letTimeGoOn_0 rfl ?_
  refine V_dup 2 rfl d_Cs_letTimeGoOn_1 rfl ?_
  refine V_geti 5 1 (lC4 hL) kc_Cs (by decide) fl_Cs_24 (Or.inl rfl) rfl d_Cs_letTimeGoOn_2 rfl ?_
  refine V_il1 6 d_Cs_letTimeGoOn_5 rfl ?_
  refine V_iadd 7 d_Cs_letTimeGoOn_6 rfl ?_
  refine V_puti 10 1 (lC4 hL) kc_Cs (by decide) fl_Cs_24 (Or.inl rfl) rfl rfl rfl rfl d_Cs_letTimeGoOn_7 rfl ?_
  refine V_al0 11 d_Cs_letTimeGoOn_10 rfl ?_
  refine V_geti 14 1 (lC4 hL) kc_Cs (by decide) fl_Cs_24 (Or.inl rfl) rfl d_Cs_letTimeGoOn_11 rfl ?_
  exact V_iret rfl d_Cs_letTimeGoOn_14 ⟨by rw [gst_same]; simp [upd], rfl, rfl⟩
set_option maxRecDepth 100000 in
set_option maxHeartbeats 4000000 in
theorem c_Cs_find (l : Launch) (G : gG) (L : gLy) (M : gMe) (hL : gLC L) (c : Nat) (hH : gLH L c) (hs : M 5 1 = nI c) (hc : c < 100) (n : Nat) (h1 : 1 ≤ n) (hn : n ≤ c) : gMet l G y_Cs_find b_Cs_find 2 (some (FieldType.object "ProofGate$Credential")) (rmL 4 0 0) [.ref 4, .int (nI n)] L M gAll (gPo (some (.ref (cP n))) L M) 0 0 := by
  have hH9 := hH
  obtain ⟨e, cap, h5, hE, hRc⟩ := hH
  have hH := hH9
  refine gMet_of (lv := [some (.ref 4), some (.int (nI n))]) (by decide) rfl (Nat.le_of_ble_eq_true rfl) rfl ?_
  refine V_il1 1 d_Cs_find_0 rfl ?_
  refine V_iconst 2 (v := 1) (by decide) d_Cs_find_1 rfl ?_
  refine V_icmp_lt 32 5 d_Cs_find_2 (by decide) rfl (fun h9 => absurd h9 (nI_nlt (b := 1) h1 (by omega))) (fun _ => ?_)
  refine V_il1 6 d_Cs_find_5 rfl ?_
  refine V_al0 7 d_Cs_find_6 rfl ?_
  refine V_getr 10 0 (lC4 hL) kc_Cs (by decide) fl_Cs_10 (Or.inl rfl) rfl d_Cs_find_7 rfl ?_
  refine V_cV1 13 (c_AL_size l G _ _ c hH) ok_AL_size ml_Cs_16 im_AL_size se_AL_size h5 kc_AL (gRm_ok (by decide) (by decide)) rfl rfl (Nat.le_of_ble_eq_true rfl) d_Cs_find_10 ⟨Nat.le_of_ble_eq_true rfl, Nat.le_of_ble_eq_true rfl⟩ rfl ?_
  refine V_icmp_gt 32 16 d_Cs_find_13 (by decide) rfl (fun h9 => absurd h9 (by rw [hs]; exact nI_nlt hn (by omega))) (fun _ => ?_)
  refine V_al0 17 d_Cs_find_16 rfl ?_
  refine V_getr 20 0 (lC4 hL) kc_Cs (by decide) fl_Cs_10 (Or.inl rfl) rfl d_Cs_find_17 rfl ?_
  refine V_il1 21 d_Cs_find_20 rfl ?_
  refine V_iconst 22 (v := 1) (by decide) d_Cs_find_21 rfl ?_
  refine V_isub 23 d_Cs_find_22 rfl ?_
  refine V_topi (nI_dm h1) ?_
  refine V_cV1 26 (c_AL_get l G _ _ c hH hs hc (n - 1) (by omega)) ok_AL_get ml_Cs_28 im_AL_get se_AL_get h5 kc_AL (gRm_ok (by decide) (by decide)) rfl rfl (Nat.le_of_ble_eq_true rfl) d_Cs_find_23 ⟨Nat.le_of_ble_eq_true rfl, Nat.le_of_ble_eq_true rfl⟩ rfl ?_
  refine V_top (w := .ref (cP n)) (by rw [show n - 1 + 1 = n by omega]) ?_
  refine V_cast 29 (hRc n h1 hn).1 kc_Cr cl_Cs_32 ca_Cr d_Cs_find_26 rfl ?_
  refine V_goto 33 d_Cs_find_29 (by decide) ?_
  exact V_aret rfl (Or.inl ⟨_, rfl⟩) (Or.inr ⟨_, rfl⟩) d_Cs_find_33 ⟨rfl, rfl, rfl⟩
set_option maxRecDepth 100000 in
set_option maxHeartbeats 4000000 in
theorem c_Cs_find_none (l : Launch) (G : gG) (L : gLy) (M : gMe) (hL : gLC L) (c : Nat) (hH : gLH L c) (hs : M 5 1 = nI c) (x : Int32) (hx : x < 1 ∨ nI c < x) : gMet l G y_Cs_find b_Cs_find 2 (some (FieldType.object "ProofGate$Credential")) (rmL 4 0 0) [.ref 4, .int x] L M gAll (gPo (some .null) L M) 0 0 := by
  have hH9 := hH
  obtain ⟨e, cap, h5, hE, hRc⟩ := hH
  have hH := hH9
  refine gMet_of (lv := [some (.ref 4), some (.int x)]) (by decide) rfl (Nat.le_of_ble_eq_true rfl) rfl ?_
  refine V_il1 1 d_Cs_find_0 rfl ?_
  refine V_iconst 2 (v := 1) (by decide) d_Cs_find_1 rfl ?_
  refine V_icmp_lt 32 5 d_Cs_find_2 (by decide) rfl (fun h2 => ?_) (fun h2 => ?_)
  · refine V_null 33 d_Cs_find_32 rfl ?_
    exact V_aret rfl (Or.inl ⟨_, rfl⟩) (Or.inl rfl) d_Cs_find_33 ⟨rfl, rfl, rfl⟩
  · refine V_il1 6 d_Cs_find_5 rfl ?_
    refine V_al0 7 d_Cs_find_6 rfl ?_
    refine V_getr 10 0 (lC4 hL) kc_Cs (by decide) fl_Cs_10 (Or.inl rfl) rfl d_Cs_find_7 rfl ?_
    refine V_cV1 13 (c_AL_size l G _ _ c hH) ok_AL_size ml_Cs_16 im_AL_size se_AL_size h5 kc_AL (gRm_ok (by decide) (by decide)) rfl rfl (Nat.le_of_ble_eq_true rfl) d_Cs_find_10 ⟨Nat.le_of_ble_eq_true rfl, Nat.le_of_ble_eq_true rfl⟩ rfl ?_
    refine V_icmp_gt 32 16 d_Cs_find_13 (by decide) rfl (fun _ => ?_) (fun h9 => absurd (by rw [hs]; exact hx.resolve_left h2) h9)
    refine V_null 33 d_Cs_find_32 rfl ?_
    exact V_aret rfl (Or.inl ⟨_, rfl⟩) (Or.inl rfl) d_Cs_find_33 ⟨rfl, rfl, rfl⟩
set_option maxRecDepth 100000 in
set_option maxHeartbeats 4000000 in
theorem c_Cs_findValid (l : Launch) (G : gG) (L : gLy) (M : gMe) (hL : gLC L) (c : Nat) (hH : gLH L c) (hs : M 5 1 = nI c) (hc : c < 100) (n : Nat) (h1 : 1 ≤ n) (hn : n ≤ c) (hv : pVal M (cP n) (M 4 1)) : gMet l G y_Cs_findValid b_Cs_findValid 3 (some (FieldType.object "ProofGate$Credential")) (rmL 5 0 0) [.ref 4, .int (nI n)] L M gAll (gPo (some (.ref (cP n))) L M) 0 0 := by
  have hH9 := hH
  obtain ⟨e, cap, h5, hE, hRc⟩ := hH
  have hH := hH9
  refine gMet_of (lv := [some (.ref 4), some (.int (nI n)), none]) (by decide) rfl (Nat.le_of_ble_eq_true rfl) rfl ?_
  refine V_al0 1 d_Cs_findValid_0 rfl ?_
  refine V_il1 2 d_Cs_findValid_1 rfl ?_
  refine V_cV1 5 (c_Cs_find l G _ _ hL c hH hs hc n h1 hn) ok_Cs_find ml_Cs_34 im_Cs_find se_Cs_find (lC4 hL) kc_Cs (gRm_ok (by decide) (by decide)) rfl rfl (Nat.le_of_ble_eq_true rfl) d_Cs_findValid_2 ⟨Nat.le_of_ble_eq_true rfl, Nat.le_of_ble_eq_true rfl⟩ rfl ?_
  refine V_as2 6 d_Cs_findValid_5 (by decide) rfl ?_
  refine V_al2 7 d_Cs_findValid_6 rfl ?_
  refine V_nul 10 d_Cs_findValid_7 rfl ?_
  refine V_al2 11 d_Cs_findValid_10 rfl ?_
  refine V_al0 12 d_Cs_findValid_11 rfl ?_
  refine V_geti 15 1 (lC4 hL) kc_Cs (by decide) fl_Cs_24 (Or.inl rfl) rfl d_Cs_findValid_12 rfl ?_
  refine V_cV1 18 (c_Cr_isValidAt l G _ _ (cP n) (cP n + 1) (hRc n h1 hn) (M 4 1)) ok_Cr_isValidAt ml_Cs_38 im_Cr_isValidAt se_Cr_isValidAt (hRc n h1 hn).1 kc_Cr (gRm_ok (by decide) (by decide)) rfl rfl (Nat.le_of_ble_eq_true rfl) d_Cs_findValid_15 ⟨Nat.le_of_ble_eq_true rfl, Nat.le_of_ble_eq_true rfl⟩ rfl ?_
  refine V_bz 25 21 d_Cs_findValid_18 (by decide) rfl (fun h9 => absurd hv h9) (fun _ => ?_)
  refine V_al2 22 d_Cs_findValid_21 rfl ?_
  refine V_goto 26 d_Cs_findValid_22 (by decide) ?_
  exact V_aret rfl (Or.inl ⟨_, rfl⟩) (Or.inr ⟨_, rfl⟩) d_Cs_findValid_26 ⟨rfl, rfl, rfl⟩
set_option maxRecDepth 100000 in
set_option maxHeartbeats 4000000 in
theorem c_Cs_findValid_inv (l : Launch) (G : gG) (L : gLy) (M : gMe) (hL : gLC L) (c : Nat) (hH : gLH L c) (hs : M 5 1 = nI c) (hc : c < 100) (n : Nat) (h1 : 1 ≤ n) (hn : n ≤ c) (hv : ¬ pVal M (cP n) (M 4 1)) : gMet l G y_Cs_findValid b_Cs_findValid 3 (some (FieldType.object "ProofGate$Credential")) (rmL 5 0 0) [.ref 4, .int (nI n)] L M gAll (gPo (some (.null)) L M) 0 0 := by
  have hH9 := hH
  obtain ⟨e, cap, h5, hE, hRc⟩ := hH
  have hH := hH9
  refine gMet_of (lv := [some (.ref 4), some (.int (nI n)), none]) (by decide) rfl (Nat.le_of_ble_eq_true rfl) rfl ?_
  refine V_al0 1 d_Cs_findValid_0 rfl ?_
  refine V_il1 2 d_Cs_findValid_1 rfl ?_
  refine V_cV1 5 (c_Cs_find l G _ _ hL c hH hs hc n h1 hn) ok_Cs_find ml_Cs_34 im_Cs_find se_Cs_find (lC4 hL) kc_Cs (gRm_ok (by decide) (by decide)) rfl rfl (Nat.le_of_ble_eq_true rfl) d_Cs_findValid_2 ⟨Nat.le_of_ble_eq_true rfl, Nat.le_of_ble_eq_true rfl⟩ rfl ?_
  refine V_as2 6 d_Cs_findValid_5 (by decide) rfl ?_
  refine V_al2 7 d_Cs_findValid_6 rfl ?_
  refine V_nul 10 d_Cs_findValid_7 rfl ?_
  refine V_al2 11 d_Cs_findValid_10 rfl ?_
  refine V_al0 12 d_Cs_findValid_11 rfl ?_
  refine V_geti 15 1 (lC4 hL) kc_Cs (by decide) fl_Cs_24 (Or.inl rfl) rfl d_Cs_findValid_12 rfl ?_
  refine V_cV1 18 (c_Cr_isValidAt l G _ _ (cP n) (cP n + 1) (hRc n h1 hn) (M 4 1)) ok_Cr_isValidAt ml_Cs_38 im_Cr_isValidAt se_Cr_isValidAt (hRc n h1 hn).1 kc_Cr (gRm_ok (by decide) (by decide)) rfl rfl (Nat.le_of_ble_eq_true rfl) d_Cs_findValid_15 ⟨Nat.le_of_ble_eq_true rfl, Nat.le_of_ble_eq_true rfl⟩ rfl ?_
  refine V_bz 25 21 d_Cs_findValid_18 (by decide) rfl (fun _ => ?_) (fun h9 => absurd h9 hv)
  refine V_null 26 d_Cs_findValid_25 rfl ?_
  exact V_aret rfl (Or.inl ⟨_, rfl⟩) (Or.inl rfl) d_Cs_findValid_26 ⟨rfl, rfl, rfl⟩
set_option maxRecDepth 100000 in
set_option maxHeartbeats 4000000 in
theorem c_Cs_findValid_none (l : Launch) (G : gG) (L : gLy) (M : gMe) (hL : gLC L) (c : Nat) (hH : gLH L c) (hs : M 5 1 = nI c) (x : Int32) (hx : x < 1 ∨ nI c < x) : gMet l G y_Cs_findValid b_Cs_findValid 3 (some (FieldType.object "ProofGate$Credential")) (rmL 5 0 0) [.ref 4, .int x] L M gAll (gPo (some .null) L M) 0 0 := by
  have hH9 := hH
  obtain ⟨e, cap, h5, hE, hRc⟩ := hH
  have hH := hH9
  refine gMet_of (lv := [some (.ref 4), some (.int x), none]) (by decide) rfl (Nat.le_of_ble_eq_true rfl) rfl ?_
  refine V_al0 1 d_Cs_findValid_0 rfl ?_
  refine V_il1 2 d_Cs_findValid_1 rfl ?_
  refine V_cV1 5 (c_Cs_find_none l G _ _ hL c hH hs x hx) ok_Cs_find ml_Cs_34 im_Cs_find se_Cs_find (lC4 hL) kc_Cs (gRm_ok (by decide) (by decide)) rfl rfl (Nat.le_of_ble_eq_true rfl) d_Cs_findValid_2 ⟨Nat.le_of_ble_eq_true rfl, Nat.le_of_ble_eq_true rfl⟩ rfl ?_
  refine V_az2 6 d_Cs_findValid_5 (by decide) rfl ?_
  refine V_an2 7 d_Cs_findValid_6 rfl ?_
  refine V_nulN 25 d_Cs_findValid_7 (by decide) ?_
  refine V_null 26 d_Cs_findValid_25 rfl ?_
  exact V_aret rfl (Or.inl ⟨_, rfl⟩) (Or.inl rfl) d_Cs_findValid_26 ⟨rfl, rfl, rfl⟩
def faB (M : gMe) (b b2 : Nat) : Nat → gMe
  | 0 => M
  | k + 1 => gst (faB M b b2 k) b k (faB M b b2 k b2 k)
set_option maxRecDepth 100000 in
set_option maxHeartbeats 4000000 in
theorem c_Fa_become (l : Launch) (G : gG) (L : gLy) (M : gMe) (b b2 : Nat) (hF : gLF L b) (hF2 : gLF L b2) : gMet l G y_Fa_become b_Fa_become 2 none (rmL 1 0 0) [.ref b, .ref b2] L M gAll (gPo none L (faB M b b2 6)) 0 0 := by
  refine gMet_of (lv := [some (.ref b), some (.ref b2)]) (by decide) rfl (Nat.le_of_ble_eq_true rfl) rfl ?_
  refine V_al0 1 d_Fa_become_0 rfl ?_
  refine V_al1 2 d_Fa_become_1 rfl ?_
  refine V_geti 5 0 hF2 kc_Fa (by decide) fl_Fa_15 (Or.inl rfl) rfl d_Fa_become_2 rfl ?_
  refine V_puti 8 0 hF kc_Fa (by decide) fl_Fa_15 (Or.inl rfl) rfl rfl rfl rfl d_Fa_become_5 rfl ?_
  refine V_al0 9 d_Fa_become_8 rfl ?_
  refine V_al1 10 d_Fa_become_9 rfl ?_
  refine V_geti 13 1 hF2 kc_Fa (by decide) fl_Fa_21 (Or.inl rfl) rfl d_Fa_become_10 rfl ?_
  refine V_puti 16 1 hF kc_Fa (by decide) fl_Fa_21 (Or.inl rfl) rfl rfl rfl rfl d_Fa_become_13 rfl ?_
  refine V_al0 17 d_Fa_become_16 rfl ?_
  refine V_al1 18 d_Fa_become_17 rfl ?_
  refine V_geti 21 2 hF2 kc_Fa (by decide) fl_Fa_28 (Or.inl rfl) rfl d_Fa_become_18 rfl ?_
  refine V_puti 24 2 hF kc_Fa (by decide) fl_Fa_28 (Or.inl rfl) rfl rfl rfl rfl d_Fa_become_21 rfl ?_
  refine V_al0 25 d_Fa_become_24 rfl ?_
  refine V_al1 26 d_Fa_become_25 rfl ?_
  refine V_geti 29 3 hF2 kc_Fa (by decide) fl_Fa_31 (Or.inl rfl) rfl d_Fa_become_26 rfl ?_
  refine V_puti 32 3 hF kc_Fa (by decide) fl_Fa_31 (Or.inl rfl) rfl rfl rfl rfl d_Fa_become_29 rfl ?_
  refine V_al0 33 d_Fa_become_32 rfl ?_
  refine V_al1 34 d_Fa_become_33 rfl ?_
  refine V_geti 37 4 hF2 kc_Fa (by decide) fl_Fa_34 (Or.inl rfl) rfl d_Fa_become_34 rfl ?_
  refine V_puti 40 4 hF kc_Fa (by decide) fl_Fa_34 (Or.inl rfl) rfl rfl rfl rfl d_Fa_become_37 rfl ?_
  refine V_al0 41 d_Fa_become_40 rfl ?_
  refine V_al1 42 d_Fa_become_41 rfl ?_
  refine V_geti 45 5 hF2 kc_Fa (by decide) fl_Fa_37 (Or.inl rfl) rfl d_Fa_become_42 rfl ?_
  refine V_puti 48 5 hF kc_Fa (by decide) fl_Fa_37 (Or.inl rfl) rfl rfl rfl rfl d_Fa_become_45 rfl ?_
  exact V_vret rfl d_Fa_become_48 ⟨rfl, rfl, rfl⟩
def faS (M : gMe) (b c n : Nat) : gMe :=
  let M1 := gst M b 0 (M c 1)
  let M2 := gst M1 b 1 (M1 c 0)
  let M3 := gst M2 b 2 (M2 n 0)
  let M4 := gst M3 b 3 (M3 n 1)
  let M5 := gst M4 b 4 (M4 n 2)
  gst M5 b 5 (M5 n 3)
set_option maxRecDepth 100000 in
set_option maxHeartbeats 4000000 in
theorem c_Fa_becomeSaidBy (l : Launch) (G : gG) (L : gLy) (M : gMe) (b c n : Nat) (hF : gLF L b) (hR : gLR L c n) : gMet l G y_Fa_becomeSaidBy b_Fa_becomeSaidBy 2 none (rmL 1 0 0) [.ref b, .ref c] L M gAll (gPo none L (faS M b c n)) 0 0 := by
  refine gMet_of (lv := [some (.ref b), some (.ref c)]) (by decide) rfl (Nat.le_of_ble_eq_true rfl) rfl ?_
  refine V_al0 1 d_Fa_becomeSaidBy_0 rfl ?_
  refine V_al1 2 d_Fa_becomeSaidBy_1 rfl ?_
  refine V_geti 5 1 hR.1 kc_Cr (by decide) fl_Fa_9 (Or.inl rfl) rfl d_Fa_becomeSaidBy_2 rfl ?_
  refine V_puti 8 0 hF kc_Fa (by decide) fl_Fa_15 (Or.inl rfl) rfl rfl rfl rfl d_Fa_becomeSaidBy_5 rfl ?_
  refine V_al0 9 d_Fa_becomeSaidBy_8 rfl ?_
  refine V_al1 10 d_Fa_becomeSaidBy_9 rfl ?_
  refine V_geti 13 0 hR.1 kc_Cr (by decide) fl_Fa_18 (Or.inl rfl) rfl d_Fa_becomeSaidBy_10 rfl ?_
  refine V_puti 16 1 hF kc_Fa (by decide) fl_Fa_21 (Or.inl rfl) rfl rfl rfl rfl d_Fa_becomeSaidBy_13 rfl ?_
  refine V_al0 17 d_Fa_becomeSaidBy_16 rfl ?_
  refine V_al1 18 d_Fa_becomeSaidBy_17 rfl ?_
  refine V_getr 21 2 hR.1 kc_Cr (by decide) fl_Fa_24 (Or.inl rfl) rfl d_Fa_becomeSaidBy_18 rfl ?_
  refine V_iconst 22 (v := 0) (by decide) d_Fa_becomeSaidBy_21 rfl ?_
  refine V_ialn 23 (0) hR.2 rfl (by decide) (by decide) d_Fa_becomeSaidBy_22 rfl ?_
  refine V_puti 26 2 hF kc_Fa (by decide) fl_Fa_28 (Or.inl rfl) rfl rfl rfl rfl d_Fa_becomeSaidBy_23 rfl ?_
  refine V_al0 27 d_Fa_becomeSaidBy_26 rfl ?_
  refine V_al1 28 d_Fa_becomeSaidBy_27 rfl ?_
  refine V_getr 31 2 hR.1 kc_Cr (by decide) fl_Fa_24 (Or.inl rfl) rfl d_Fa_becomeSaidBy_28 rfl ?_
  refine V_iconst 32 (v := 1) (by decide) d_Fa_becomeSaidBy_31 rfl ?_
  refine V_ialn 33 (1) hR.2 rfl (by decide) (by decide) d_Fa_becomeSaidBy_32 rfl ?_
  refine V_puti 36 3 hF kc_Fa (by decide) fl_Fa_31 (Or.inl rfl) rfl rfl rfl rfl d_Fa_becomeSaidBy_33 rfl ?_
  refine V_al0 37 d_Fa_becomeSaidBy_36 rfl ?_
  refine V_al1 38 d_Fa_becomeSaidBy_37 rfl ?_
  refine V_getr 41 2 hR.1 kc_Cr (by decide) fl_Fa_24 (Or.inl rfl) rfl d_Fa_becomeSaidBy_38 rfl ?_
  refine V_iconst 42 (v := 2) (by decide) d_Fa_becomeSaidBy_41 rfl ?_
  refine V_ialn 43 (2) hR.2 rfl (by decide) (by decide) d_Fa_becomeSaidBy_42 rfl ?_
  refine V_puti 46 4 hF kc_Fa (by decide) fl_Fa_34 (Or.inl rfl) rfl rfl rfl rfl d_Fa_becomeSaidBy_43 rfl ?_
  refine V_al0 47 d_Fa_becomeSaidBy_46 rfl ?_
  refine V_al1 48 d_Fa_becomeSaidBy_47 rfl ?_
  refine V_getr 51 2 hR.1 kc_Cr (by decide) fl_Fa_24 (Or.inl rfl) rfl d_Fa_becomeSaidBy_48 rfl ?_
  refine V_iconst 52 (v := 3) (by decide) d_Fa_becomeSaidBy_51 rfl ?_
  refine V_ialn 53 (3) hR.2 rfl (by decide) (by decide) d_Fa_becomeSaidBy_52 rfl ?_
  refine V_puti 56 5 hF kc_Fa (by decide) fl_Fa_37 (Or.inl rfl) rfl rfl rfl rfl d_Fa_becomeSaidBy_53 rfl ?_
  exact V_vret rfl d_Fa_becomeSaidBy_56 ⟨rfl, rfl, rfl⟩

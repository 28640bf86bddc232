/-! the class: revoke, request -/
theorem mw_Ga_107 : Cond.methodLink "ProofGate" 107 y_Ga_writeRecord ∈ TB := tb3 228 rfl rfl
set_option maxRecDepth 100000 in
set_option maxHeartbeats 4000000 in
theorem x_Ga_revoke_1 (l : Launch) (G : gG) (L : gLy) (M : gMe) (hL : gLC L) (hx : gEx l G) (c : Nat) (hH : gLH L c) (hRc : ∀ n, 1 ≤ n → n ≤ c → gLR L (cP n) (cP n + 1)) (hs : M 5 1 = nI c) (hc : c < 100) (p x : Int32) (h9x : x < 1 ∨ nI c < x) : gMetX l G y_Ga_revoke b_Ga_revoke 4 (some FieldType.boolean) (rmL 7 1 6) [.ref 2, .int p, .int x] L M gAll 3 L (M) 1 6 := by
  refine gMetX_of (lv := [some (.ref 2), some (.int p), some (.int x), none]) (by decide) rfl (Nat.le_of_ble_eq_true rfl) rfl ?_
  refine V_al0 1 d_Ga_revoke_0 rfl ?_
  refine V_getr 4 2 (lC2 hL) kc_Ga (by decide) fl_Ga_18 (Or.inl rfl) rfl d_Ga_revoke_1 rfl ?_
  refine V_il2 5 d_Ga_revoke_4 rfl ?_
  refine V_cV1 8 (c_Cs_find_none l G _ _ hL c hH hs x h9x) ok_Cs_find ml_Ga_113 im_Cs_find se_Cs_find (lC4 hL) kc_Cs (gRm_ok (by decide) (by decide)) rfl rfl (Nat.le_of_ble_eq_true rfl) d_Ga_revoke_5 ⟨Nat.le_of_ble_eq_true rfl, Nat.le_of_ble_eq_true rfl⟩ rfl ?_
  refine V_az3 9 d_Ga_revoke_8 (by decide) rfl ?_
  refine V_an3 10 d_Ga_revoke_9 rfl ?_
  refine V_nnN 13 d_Ga_revoke_10 rfl ?_
  exact V_throwN 3 (text := "no such credential") (names := exNm) hx.1 ok_Ga_revoke.1 (by rw [gX3]; decide) exFit (by rw [gX3]; exact cl_Ga_117) ini3 (exAllN ex121) hx.2.1 (hx.2.2.1 (119, "no such credential") (by decide)) (by decide) (by decide) (by decide) (by decide) (by decide) (by decide) d_Ga_revoke_13 d_Ga_revoke_16 d_Ga_revoke_17 d_Ga_revoke_19 d_Ga_revoke_22 ⟨rfl, rfl, rfl⟩
set_option maxRecDepth 100000 in
set_option maxHeartbeats 4000000 in
theorem x_Ga_revoke_2 (l : Launch) (G : gG) (L : gLy) (M : gMe) (hL : gLC L) (hx : gEx l G) (c : Nat) (hH : gLH L c) (hRc : ∀ n, 1 ≤ n → n ≤ c → gLR L (cP n) (cP n + 1)) (hs : M 5 1 = nI c) (hc : c < 100) (n : Nat) (h1 : 1 ≤ n) (hn : n ≤ c) (p : Int32) (hp : ¬ M (cP n) 0 = p) : gMetX l G y_Ga_revoke b_Ga_revoke 4 (some FieldType.boolean) (rmL 7 1 6) [.ref 2, .int p, .int (nI n)] L M gAll 1 L (M) 1 6 := by
  refine gMetX_of (lv := [some (.ref 2), some (.int p), some (.int (nI n)), none]) (by decide) rfl (Nat.le_of_ble_eq_true rfl) rfl ?_
  refine V_al0 1 d_Ga_revoke_0 rfl ?_
  refine V_getr 4 2 (lC2 hL) kc_Ga (by decide) fl_Ga_18 (Or.inl rfl) rfl d_Ga_revoke_1 rfl ?_
  refine V_il2 5 d_Ga_revoke_4 rfl ?_
  refine V_cV1 8 (c_Cs_find l G _ _ hL c hH hs hc n h1 hn) ok_Cs_find ml_Ga_113 im_Cs_find se_Cs_find (lC4 hL) kc_Cs (gRm_ok (by decide) (by decide)) rfl rfl (Nat.le_of_ble_eq_true rfl) d_Ga_revoke_5 ⟨Nat.le_of_ble_eq_true rfl, Nat.le_of_ble_eq_true rfl⟩ rfl ?_
  refine V_as3 9 d_Ga_revoke_8 (by decide) rfl ?_
  refine V_al3 10 d_Ga_revoke_9 rfl ?_
  refine V_nn 23 d_Ga_revoke_10 (by decide) ?_
  refine V_al3 24 d_Ga_revoke_23 rfl ?_
  refine V_geti 27 0 (hRc n h1 hn).1 kc_Cr (by decide) fl_Ga_122 (Or.inl rfl) rfl d_Ga_revoke_24 rfl ?_
  refine V_il1 28 d_Ga_revoke_27 rfl ?_
  refine V_icmp_eq 41 31 d_Ga_revoke_28 (by decide) rfl (fun h9 => absurd h9 hp) (fun _ => ?_)
  exact V_throw 1 (text := "not the issuer") (names := exNm) hx.1 ok_Ga_revoke.1 (by rw [gX1]; decide) exFit (by rw [gX1]; exact cl_Ga_93) ini1 (exAll ex97) hx.2.1 (hx.2.2.1 (125, "not the issuer") (by decide)) (by decide) (by decide) (by decide) (by decide) (by decide) (by decide) d_Ga_revoke_31 d_Ga_revoke_34 d_Ga_revoke_35 d_Ga_revoke_37 d_Ga_revoke_40 ⟨rfl, rfl, rfl⟩
set_option maxRecDepth 100000 in
set_option maxHeartbeats 4000000 in
theorem c_Ga_revoke_0 (l : Launch) (G : gG) (L : gLy) (M : gMe) (hL : gLC L) (c : Nat) (hH : gLH L c) (hRc : ∀ n, 1 ≤ n → n ≤ c → gLR L (cP n) (cP n + 1)) (hs : M 5 1 = nI c) (hc : c < 100) (n : Nat) (h1 : 1 ≤ n) (hn : n ≤ c) (hv : ¬ M (cP n) 5 = 0) : gMet l G y_Ga_revoke b_Ga_revoke 4 (some FieldType.boolean) (rmL 5 0 0) [.ref 2, .int (M (cP n) 0), .int (nI n)] L M gAll (gPo (some (.int 0)) L M) 0 0 := by
  refine gMet_of (lv := [some (.ref 2), some (.int (M (cP n) 0)), some (.int (nI n)), none]) (by decide) rfl (Nat.le_of_ble_eq_true rfl) rfl ?_
  refine V_al0 1 d_Ga_revoke_0 rfl ?_
  refine V_getr 4 2 (lC2 hL) kc_Ga (by decide) fl_Ga_18 (Or.inl rfl) rfl d_Ga_revoke_1 rfl ?_
  refine V_il2 5 d_Ga_revoke_4 rfl ?_
  refine V_cV1 8 (c_Cs_find l G _ _ hL c hH hs hc n h1 hn) ok_Cs_find ml_Ga_113 im_Cs_find se_Cs_find (lC4 hL) kc_Cs (gRm_ok (by decide) (by decide)) rfl rfl (Nat.le_of_ble_eq_true rfl) d_Ga_revoke_5 ⟨Nat.le_of_ble_eq_true rfl, Nat.le_of_ble_eq_true rfl⟩ rfl ?_
  refine V_as3 9 d_Ga_revoke_8 (by decide) rfl ?_
  refine V_al3 10 d_Ga_revoke_9 rfl ?_
  refine V_nn 23 d_Ga_revoke_10 (by decide) ?_
  refine V_al3 24 d_Ga_revoke_23 rfl ?_
  refine V_geti 27 0 (hRc n h1 hn).1 kc_Cr (by decide) fl_Ga_122 (Or.inl rfl) rfl d_Ga_revoke_24 rfl ?_
  refine V_il1 28 d_Ga_revoke_27 rfl ?_
  refine V_icmp_eq 41 31 d_Ga_revoke_28 (by decide) rfl (fun _ => ?_) (fun h9 => absurd (show M (cP n) 0 = M (cP n) 0 from rfl) h9)
  refine V_al3 42 d_Ga_revoke_41 rfl ?_
  refine V_geti 45 5 (hRc n h1 hn).1 kc_Cr (by decide) fl_Ga_127 (Or.inl rfl) rfl d_Ga_revoke_42 rfl ?_
  refine V_if_eq 50 48 d_Ga_revoke_45 (by decide) rfl (fun h9 => absurd h9 hv) (fun _ => ?_)
  refine V_iconst 49 (v := 0) (by decide) d_Ga_revoke_48 rfl ?_
  exact V_zret rfl rfl d_Ga_revoke_49 ⟨rfl, rfl, rfl⟩
set_option maxRecDepth 100000 in
set_option maxHeartbeats 4000000 in
theorem x_Ga_revoke_3 (l : Launch) (G : gG) (L : gLy) (M : gMe) (hL : gLC L) (hx : gEx l G) (c : Nat) (hH : gLH L c) (hRc : ∀ n, 1 ≤ n → n ≤ c → gLR L (cP n) (cP n + 1)) (hs : M 5 1 = nI c) (hc : c < 100) (n : Nat) (h1 : 1 ≤ n) (hn : n ≤ c) (hv : M (cP n) 5 = 0) (hb : ¬ fzB M = 0) : gMetX l G y_Ga_revoke b_Ga_revoke 4 (some FieldType.boolean) (rmL 7 1 6) [.ref 2, .int (M (cP n) 0), .int (nI n)] L M gAll 2 L (gst (fzM M) 6 3 0) 1 6 := by
  refine gMetX_of (lv := [some (.ref 2), some (.int (M (cP n) 0)), some (.int (nI n)), none]) (by decide) rfl (Nat.le_of_ble_eq_true rfl) rfl ?_
  refine V_al0 1 d_Ga_revoke_0 rfl ?_
  refine V_getr 4 2 (lC2 hL) kc_Ga (by decide) fl_Ga_18 (Or.inl rfl) rfl d_Ga_revoke_1 rfl ?_
  refine V_il2 5 d_Ga_revoke_4 rfl ?_
  refine V_cV1 8 (c_Cs_find l G _ _ hL c hH hs hc n h1 hn) ok_Cs_find ml_Ga_113 im_Cs_find se_Cs_find (lC4 hL) kc_Cs (gRm_ok (by decide) (by decide)) rfl rfl (Nat.le_of_ble_eq_true rfl) d_Ga_revoke_5 ⟨Nat.le_of_ble_eq_true rfl, Nat.le_of_ble_eq_true rfl⟩ rfl ?_
  refine V_as3 9 d_Ga_revoke_8 (by decide) rfl ?_
  refine V_al3 10 d_Ga_revoke_9 rfl ?_
  refine V_nn 23 d_Ga_revoke_10 (by decide) ?_
  refine V_al3 24 d_Ga_revoke_23 rfl ?_
  refine V_geti 27 0 (hRc n h1 hn).1 kc_Cr (by decide) fl_Ga_122 (Or.inl rfl) rfl d_Ga_revoke_24 rfl ?_
  refine V_il1 28 d_Ga_revoke_27 rfl ?_
  refine V_icmp_eq 41 31 d_Ga_revoke_28 (by decide) rfl (fun _ => ?_) (fun h9 => absurd (show M (cP n) 0 = M (cP n) 0 from rfl) h9)
  refine V_al3 42 d_Ga_revoke_41 rfl ?_
  refine V_geti 45 5 (hRc n h1 hn).1 kc_Cr (by decide) fl_Ga_127 (Or.inl rfl) rfl d_Ga_revoke_42 rfl ?_
  refine V_if_eq 50 48 d_Ga_revoke_45 (by decide) rfl (fun _ => ?_) (fun h9 => absurd hv h9)
  refine V_al0 51 d_Ga_revoke_50 rfl ?_
  exact V_callVX (x_Ga_writeRecord l G _ _ hL hx hb) ok_Ga_revoke.1 ok_Ga_writeRecord mw_Ga_107 im_Ga_writeRecord se_Ga_writeRecord (lC2 hL) kc_Ga (gRm_ok (by decide) (by decide)) rfl rfl (Nat.le_of_ble_eq_true rfl) d_Ga_revoke_51 ⟨Nat.le_of_ble_eq_true rfl, Nat.le_of_ble_eq_true rfl⟩ ⟨Nat.le_of_ble_eq_true rfl, Nat.le_of_ble_eq_true rfl⟩ (fun _ _ => trivial) ⟨rfl, rfl, rfl⟩
set_option maxRecDepth 100000 in
set_option maxHeartbeats 4000000 in
theorem c_Ga_revoke (l : Launch) (G : gG) (L : gLy) (M : gMe) (hL : gLC L) (c : Nat) (hH : gLH L c) (hRc : ∀ n, 1 ≤ n → n ≤ c → gLR L (cP n) (cP n + 1)) (hs : M 5 1 = nI c) (hc : c < 100) (n : Nat) (h1 : 1 ≤ n) (hn : n ≤ c) (hv : M (cP n) 5 = 0) (hb : fzB M = 0) : gMet l G y_Ga_revoke b_Ga_revoke 4 (some FieldType.boolean) (rmL 5 0 0) [.ref 2, .int (M (cP n) 0), .int (nI n)] L M gAll (gPo (some (.int 1)) L (gst (fzM M) (cP n) 5 1)) 0 0 := by
  refine gMet_of (lv := [some (.ref 2), some (.int (M (cP n) 0)), some (.int (nI n)), none]) (by decide) rfl (Nat.le_of_ble_eq_true rfl) rfl ?_
  refine V_al0 1 d_Ga_revoke_0 rfl ?_
  refine V_getr 4 2 (lC2 hL) kc_Ga (by decide) fl_Ga_18 (Or.inl rfl) rfl d_Ga_revoke_1 rfl ?_
  refine V_il2 5 d_Ga_revoke_4 rfl ?_
  refine V_cV1 8 (c_Cs_find l G _ _ hL c hH hs hc n h1 hn) ok_Cs_find ml_Ga_113 im_Cs_find se_Cs_find (lC4 hL) kc_Cs (gRm_ok (by decide) (by decide)) rfl rfl (Nat.le_of_ble_eq_true rfl) d_Ga_revoke_5 ⟨Nat.le_of_ble_eq_true rfl, Nat.le_of_ble_eq_true rfl⟩ rfl ?_
  refine V_as3 9 d_Ga_revoke_8 (by decide) rfl ?_
  refine V_al3 10 d_Ga_revoke_9 rfl ?_
  refine V_nn 23 d_Ga_revoke_10 (by decide) ?_
  refine V_al3 24 d_Ga_revoke_23 rfl ?_
  refine V_geti 27 0 (hRc n h1 hn).1 kc_Cr (by decide) fl_Ga_122 (Or.inl rfl) rfl d_Ga_revoke_24 rfl ?_
  refine V_il1 28 d_Ga_revoke_27 rfl ?_
  refine V_icmp_eq 41 31 d_Ga_revoke_28 (by decide) rfl (fun _ => ?_) (fun h9 => absurd (show M (cP n) 0 = M (cP n) 0 from rfl) h9)
  refine V_al3 42 d_Ga_revoke_41 rfl ?_
  refine V_geti 45 5 (hRc n h1 hn).1 kc_Cr (by decide) fl_Ga_127 (Or.inl rfl) rfl d_Ga_revoke_42 rfl ?_
  refine V_if_eq 50 48 d_Ga_revoke_45 (by decide) rfl (fun _ => ?_) (fun h9 => absurd hv h9)
  refine V_al0 51 d_Ga_revoke_50 rfl ?_
  refine V_cV0 54 (c_Ga_writeRecord l G _ _ hL hb) ok_Ga_writeRecord ml_Ga_107 im_Ga_writeRecord se_Ga_writeRecord (lC2 hL) kc_Ga (gRm_ok (by decide) (by decide)) rfl rfl (Nat.le_of_ble_eq_true rfl) d_Ga_revoke_51 ⟨Nat.le_of_ble_eq_true rfl, Nat.le_of_ble_eq_true rfl⟩ rfl ?_
  refine V_al3 55 d_Ga_revoke_54 rfl ?_
  refine V_iconst 56 (v := 1) (by decide) d_Ga_revoke_55 rfl ?_
  refine V_puti 59 5 (hRc n h1 hn).1 kc_Cr (by decide) fl_Ga_127 (Or.inl rfl) rfl rfl rfl rfl d_Ga_revoke_56 rfl ?_
  refine V_iconst 60 (v := 1) (by decide) d_Ga_revoke_59 rfl ?_
  exact V_zret rfl rfl d_Ga_revoke_60 ⟨rfl, rfl, rfl⟩
theorem c_Ga_carryOut (l : Launch) (G : gG) (L : gLy) (M : gMe) (hL : gLC L) (p v : Int32) (r o : Nat) (hr : r < 4) (ho : o < 6) : gMet l G y_Ga_carryOut b_Ga_carryOut 7 (some FieldType.int) (rmL 2 0 0) [.ref 2, .int p, .int (nI r), .int (nI o), .int v] L M gAll (gPo (some (.int (coR M r o))) L (coM M p r o v)) 0 0 := by
  rcases (show r = 0 ∨ r = 1 ∨ r = 2 ∨ r = 3 by omega) with h | h | h | h <;> subst h
  · exact c_Ga_carryOut0 l G L M hL p v o ho
  · exact c_Ga_carryOut1 l G L M hL p v o ho
  · exact c_Ga_carryOut2 l G L M hL p v o ho
  · exact c_Ga_carryOut3 l G L M hL p v o ho
set_option maxRecDepth 100000 in
set_option maxHeartbeats 4000000 in
theorem x_Ga_request_1 (l : Launch) (G : gG) (L : gLy) (M : gMe) (hx : gEx l G) (p r o v gv : Int32) (hn : ¬ pNamed p r o) : gMetX l G y_Ga_request b_Ga_request 7 (some FieldType.int) (rmL 50 1 6) [.ref 2, .int p, .int r, .int o, .int v, .int gv] L M gAll 0 L (M) 1 6 := by
  refine gMetX_of (lv := [some (.ref 2), some (.int p), some (.int r), some (.int o), some (.int v), some (.int gv), none]) (by decide) rfl (Nat.le_of_ble_eq_true rfl) rfl ?_
  refine V_il1 1 d_Ga_request_0 rfl ?_
  refine V_il2 2 d_Ga_request_1 rfl ?_
  refine V_il3 3 d_Ga_request_2 rfl ?_
  refine V_cS1 6 (c_Ga_isNamed l G _ _ _ _ _) ok_Ga_isNamed ml_Ga_158 st_Ga_isNamed (gRm_ok (by decide) (by decide)) rfl rfl (Nat.le_of_ble_eq_true rfl) d_Ga_request_3 ⟨Nat.le_of_ble_eq_true rfl, Nat.le_of_ble_eq_true rfl⟩ rfl ?_
  refine V_bn 19 9 d_Ga_request_6 (by decide) rfl (fun h9 => absurd h9 hn) (fun _ => ?_)
  exact V_throw 0 (text := "no such principal, right or object") (names := exNm) hx.1 ok_Ga_request.1 (by rw [gX0]; decide) exFit (by rw [gX0]; exact cl_Ga_86) ini0 (exAll ex90) hx.2.1 (hx.2.2.1 (186, "no such principal, right or object") (by decide)) (by decide) (by decide) (by decide) (by decide) (by decide) (by decide) d_Ga_request_9 d_Ga_request_12 d_Ga_request_13 d_Ga_request_15 d_Ga_request_18 ⟨rfl, rfl, rfl⟩
set_option maxRecDepth 100000 in
set_option maxHeartbeats 4000000 in
theorem x_Ga_request_2 (l : Launch) (G : gG) (L : gLy) (M : gMe) (hL : gLC L) (hx : gEx l G) (p r o : Nat) (hp : p < 6) (hr : r < 4) (ho : o < 6) (v gv : Int32) (hop : ¬ pOpen M (nI r) o) : gMetX l G y_Ga_request b_Ga_request 7 (some FieldType.int) (rmL 50 1 6) [.ref 2, .int (nI p), .int (nI r), .int (nI o), .int v, .int gv] L M gAll 3 L (M) 1 6 := by
  refine gMetX_of (lv := [some (.ref 2), some (.int (nI p)), some (.int (nI r)), some (.int (nI o)), some (.int v), some (.int gv), none]) (by decide) rfl (Nat.le_of_ble_eq_true rfl) rfl ?_
  refine V_il1 1 d_Ga_request_0 rfl ?_
  refine V_il2 2 d_Ga_request_1 rfl ?_
  refine V_il3 3 d_Ga_request_2 rfl ?_
  refine V_cS1 6 (c_Ga_isNamed l G _ _ _ _ _) ok_Ga_isNamed ml_Ga_158 st_Ga_isNamed (gRm_ok (by decide) (by decide)) rfl rfl (Nat.le_of_ble_eq_true rfl) d_Ga_request_3 ⟨Nat.le_of_ble_eq_true rfl, Nat.le_of_ble_eq_true rfl⟩ rfl ?_
  refine V_bn 19 9 d_Ga_request_6 (by decide) rfl (fun _ => ?_) (fun h9 => absurd (pNamed_nI hp hr ho) h9)
  refine V_al0 20 d_Ga_request_19 rfl ?_
  refine V_il2 21 d_Ga_request_20 rfl ?_
  refine V_il3 22 d_Ga_request_21 rfl ?_
  refine V_cV1 25 (c_Ga_isOpenTo l G _ _ hL _ o ho) ok_Ga_isOpenTo ml_Ga_162 im_Ga_isOpenTo se_Ga_isOpenTo (lC2 hL) kc_Ga (gRm_ok (by decide) (by decide)) rfl rfl (Nat.le_of_ble_eq_true rfl) d_Ga_request_22 ⟨Nat.le_of_ble_eq_true rfl, Nat.le_of_ble_eq_true rfl⟩ rfl ?_
  refine V_bn 38 28 d_Ga_request_25 (by decide) rfl (fun h9 => absurd h9 hop) (fun _ => ?_)
  exact V_throwN 3 (text := "the object is not there, or is there already") (names := exNm) hx.1 ok_Ga_request.1 (by rw [gX3]; decide) exFit (by rw [gX3]; exact cl_Ga_117) ini3 (exAllN ex121) hx.2.1 (hx.2.2.1 (188, "the object is not there, or is there already") (by decide)) (by decide) (by decide) (by decide) (by decide) (by decide) (by decide) d_Ga_request_28 d_Ga_request_31 d_Ga_request_32 d_Ga_request_34 d_Ga_request_37 ⟨rfl, rfl, rfl⟩
def rqM (M : gMe) (p r o N : Int32) : gMe := lgAdd (fzM M) p r o N
set_option maxRecDepth 100000 in
set_option maxHeartbeats 4000000 in
theorem rc69u (l : Launch) (G : gG) (L : gLy) (M : gMe) (hL : gLC L) (hx : gEx l G) (p r o : Nat) (hr : r < 4) (ho : o < 6) (v gv N : Int32) (hN : ¬ 0 < N) (z6 : Option Value) : V l G y_Ga_request b_Ga_request 7 (some FieldType.int) (rmL 50 1 6) 1 6 gAll (gPo (some (.long 1)) L M) L (M) 0 0 [some (.ref 2), some (.int (nI p)), some (.int (nI r)), some (.int (nI o)), some (.int v), some (.int gv), z6] 69 [.int N] := by
  refine V_is6 71 d_Ga_request_69 (by decide) rfl ?_
  refine V_il6 73 d_Ga_request_71 rfl ?_
  refine V_if_gt 86 76 d_Ga_request_73 (by decide) rfl (fun h9 => absurd h9 hN) (fun _ => ?_)
  exact V_throw 1 (text := "not granted") (names := exNm) hx.1 ok_Ga_request.1 (by rw [gX1]; decide) exFit (by rw [gX1]; exact cl_Ga_93) ini1 (exAll ex97) hx.2.1 (hx.2.2.1 (193, "not granted") (by decide)) (by decide) (by decide) (by decide) (by decide) (by decide) (by decide) d_Ga_request_76 d_Ga_request_79 d_Ga_request_80 d_Ga_request_82 d_Ga_request_85 ⟨rfl, rfl, rfl⟩
set_option maxRecDepth 100000 in
set_option maxHeartbeats 4000000 in
theorem rc69w (l : Launch) (G : gG) (L : gLy) (M : gMe) (hL : gLC L) (hx : gEx l G) (hb : ¬ fzB M = 0) (p r o : Nat) (hr : r < 4) (ho : o < 6) (v gv N : Int32) (hN : 0 < N) (z6 : Option Value) : V l G y_Ga_request b_Ga_request 7 (some FieldType.int) (rmL 50 1 6) 1 6 gAll (gPo (some (.long 2)) L (gst (fzM M) 6 3 0)) L (M) 0 0 [some (.ref 2), some (.int (nI p)), some (.int (nI r)), some (.int (nI o)), some (.int v), some (.int gv), z6] 69 [.int N] := by
  refine V_is6 71 d_Ga_request_69 (by decide) rfl ?_
  refine V_il6 73 d_Ga_request_71 rfl ?_
  refine V_if_gt 86 76 d_Ga_request_73 (by decide) rfl (fun _ => ?_) (fun h9 => absurd hN h9)
  refine V_al0 87 d_Ga_request_86 rfl ?_
  exact V_callVX (x_Ga_writeRecord l G _ _ hL hx hb) ok_Ga_request.1 ok_Ga_writeRecord mw_Ga_107 im_Ga_writeRecord se_Ga_writeRecord (lC2 hL) kc_Ga (gRm_ok (by decide) (by decide)) rfl rfl (Nat.le_of_ble_eq_true rfl) d_Ga_request_87 ⟨Nat.le_of_ble_eq_true rfl, Nat.le_of_ble_eq_true rfl⟩ ⟨Nat.le_of_ble_eq_true rfl, Nat.le_of_ble_eq_true rfl⟩ (fun _ _ => trivial) ⟨rfl, rfl, rfl⟩
set_option maxRecDepth 100000 in
set_option maxHeartbeats 4000000 in
theorem rc69r (l : Launch) (G : gG) (L : gLy) (M : gMe) (hL : gLC L) (hb : fzB M = 0) (p r o : Nat) (hr : r < 4) (ho : o < 6) (v gv N : Int32) (hN : 0 < N) (z6 : Option Value) : V l G y_Ga_request b_Ga_request 7 (some FieldType.int) (rmL 50 0 0) 0 0 gAll (gPo (some (.int (coR (rqM M (nI p) (nI r) (nI o) N) r o))) L (coM (rqM M (nI p) (nI r) (nI o) N) (nI p) r o v)) L (M) 0 0 [some (.ref 2), some (.int (nI p)), some (.int (nI r)), some (.int (nI o)), some (.int v), some (.int gv), z6] 69 [.int N] := by
  refine V_is6 71 d_Ga_request_69 (by decide) rfl ?_
  refine V_il6 73 d_Ga_request_71 rfl ?_
  refine V_if_gt 86 76 d_Ga_request_73 (by decide) rfl (fun _ => ?_) (fun h9 => absurd hN h9)
  refine V_al0 87 d_Ga_request_86 rfl ?_
  refine V_cV0 90 (c_Ga_writeRecord l G _ _ hL hb) ok_Ga_writeRecord ml_Ga_107 im_Ga_writeRecord se_Ga_writeRecord (lC2 hL) kc_Ga (gRm_ok (by decide) (by decide)) rfl rfl (Nat.le_of_ble_eq_true rfl) d_Ga_request_87 ⟨Nat.le_of_ble_eq_true rfl, Nat.le_of_ble_eq_true rfl⟩ rfl ?_
  refine V_al0 91 d_Ga_request_90 rfl ?_
  refine V_getr 94 6 (lC2 hL) kc_Ga (by decide) fl_Ga_48 (Or.inl rfl) rfl d_Ga_request_91 rfl ?_
  refine V_il1 95 d_Ga_request_94 rfl ?_
  refine V_il2 96 d_Ga_request_95 rfl ?_
  refine V_il3 97 d_Ga_request_96 rfl ?_
  refine V_il6 99 d_Ga_request_97 rfl ?_
  refine V_cV0 102 (c_Lg_addGrant l G _ _ hL _ _ _ _) ok_Lg_addGrant ml_Ga_195 im_Lg_addGrant se_Lg_addGrant (lC22 hL) kc_Lg (gRm_ok (by decide) (by decide)) rfl rfl (Nat.le_of_ble_eq_true rfl) d_Ga_request_99 ⟨Nat.le_of_ble_eq_true rfl, Nat.le_of_ble_eq_true rfl⟩ rfl ?_
  refine V_al0 103 d_Ga_request_102 rfl ?_
  refine V_il1 104 d_Ga_request_103 rfl ?_
  refine V_il2 105 d_Ga_request_104 rfl ?_
  refine V_il3 106 d_Ga_request_105 rfl ?_
  refine V_il4 108 d_Ga_request_106 rfl ?_
  refine V_cV1 111 (c_Ga_carryOut l G _ _ hL _ _ r o hr ho) ok_Ga_carryOut ml_Ga_199 im_Ga_carryOut se_Ga_carryOut (lC2 hL) kc_Ga (gRm_ok (by decide) (by decide)) rfl rfl (Nat.le_of_ble_eq_true rfl) d_Ga_request_108 ⟨Nat.le_of_ble_eq_true rfl, Nat.le_of_ble_eq_true rfl⟩ rfl ?_
  exact V_iret rfl d_Ga_request_111 ⟨rfl, rfl, rfl⟩
set_option maxRecDepth 100000 in
set_option maxHeartbeats 4000000 in
theorem x_Ga_request_g1 (l : Launch) (G : gG) (L : gLy) (M : gMe) (hL : gLC L) (hx : gEx l G) (c : Nat) (hH : gLH L c) (hs : M 5 1 = nI c) (hc : c < 100) (n : Nat) (hn : M 6 3 = nI n) (hn4 : n ≤ 40) (p r o : Nat) (hp : p < 6) (hr : r < 4) (ho : o < 6) (a : Nat) (ha : (if nI r = 3 then 0 else M 24 o) = nI a) (hop : pOpen M (nI r) o) (v : Int32) (hN : ¬ 0 < (uuR c n M (nI a) (nI p) (nI r) (nI o))) : gMetX l G y_Ga_request b_Ga_request 7 (some FieldType.int) (rmL 50 1 6) [.ref 2, .int (nI p), .int (nI r), .int (nI o), .int v, .int 1] L M gAll 1 L ((gst (apR c n M (nI a) (nI p) (nI r) (nI o)).2 6 3 0)) 1 6 := by
  refine gMetX_of (lv := [some (.ref 2), some (.int (nI p)), some (.int (nI r)), some (.int (nI o)), some (.int v), some (.int 1), none]) (by decide) rfl (Nat.le_of_ble_eq_true rfl) rfl ?_
  refine V_il1 1 d_Ga_request_0 rfl ?_
  refine V_il2 2 d_Ga_request_1 rfl ?_
  refine V_il3 3 d_Ga_request_2 rfl ?_
  refine V_cS1 6 (c_Ga_isNamed l G _ _ _ _ _) ok_Ga_isNamed ml_Ga_158 st_Ga_isNamed (gRm_ok (by decide) (by decide)) rfl rfl (Nat.le_of_ble_eq_true rfl) d_Ga_request_3 ⟨Nat.le_of_ble_eq_true rfl, Nat.le_of_ble_eq_true rfl⟩ rfl ?_
  refine V_bn 19 9 d_Ga_request_6 (by decide) rfl (fun _ => ?_) (fun h9 => absurd (pNamed_nI hp hr ho) h9)
  refine V_al0 20 d_Ga_request_19 rfl ?_
  refine V_il2 21 d_Ga_request_20 rfl ?_
  refine V_il3 22 d_Ga_request_21 rfl ?_
  refine V_cV1 25 (c_Ga_isOpenTo l G _ _ hL _ o ho) ok_Ga_isOpenTo ml_Ga_162 im_Ga_isOpenTo se_Ga_isOpenTo (lC2 hL) kc_Ga (gRm_ok (by decide) (by decide)) rfl rfl (Nat.le_of_ble_eq_true rfl) d_Ga_request_22 ⟨Nat.le_of_ble_eq_true rfl, Nat.le_of_ble_eq_true rfl⟩ rfl ?_
  refine V_bn 38 28 d_Ga_request_25 (by decide) rfl (fun _ => ?_) (fun h9 => absurd hop h9)
  refine V_il5 40 d_Ga_request_38 rfl ?_
  refine V_if_eq 53 43 d_Ga_request_40 (by decide) rfl (fun h9 => absurd h9 (show ¬ (1 : Int32) = 0 by decide)) (fun _ => ?_)
  refine V_al0 44 d_Ga_request_43 rfl ?_
  refine V_il1 45 d_Ga_request_44 rfl ?_
  refine V_il2 46 d_Ga_request_45 rfl ?_
  refine V_il3 47 d_Ga_request_46 rfl ?_
  refine V_cV1 50 (c_Ga_useUpDraft l G _ _ hL c hH hs hc n hn hn4 p r o hp hr ho a ha) ok_Ga_useUpDraft ml_Ga_190 im_Ga_useUpDraft se_Ga_useUpDraft (lC2 hL) kc_Ga (gRm_ok (by decide) (by decide)) rfl rfl (Nat.le_of_ble_eq_true rfl) d_Ga_request_47 ⟨Nat.le_of_ble_eq_true rfl, Nat.le_of_ble_eq_true rfl⟩ rfl ?_
  refine V_goto 69 d_Ga_request_50 (by decide) ?_
  exact rc69u l G _ _ hL hx p r o hr ho v 1 _ hN _
set_option maxRecDepth 100000 in
set_option maxHeartbeats 4000000 in
theorem x_Ga_request_g2 (l : Launch) (G : gG) (L : gLy) (M : gMe) (hL : gLC L) (hx : gEx l G) (c : Nat) (hH : gLH L c) (hs : M 5 1 = nI c) (hc : c < 100) (n : Nat) (hn : M 6 3 = nI n) (hn4 : n ≤ 40) (p r o : Nat) (hp : p < 6) (hr : r < 4) (ho : o < 6) (a : Nat) (ha : (if nI r = 3 then 0 else M 24 o) = nI a) (hop : pOpen M (nI r) o) (v : Int32) (hN : 0 < (uuR c n M (nI a) (nI p) (nI r) (nI o))) (hb : ¬ fzB (gst (apR c n M (nI a) (nI p) (nI r) (nI o)).2 6 3 0) = 0) : gMetX l G y_Ga_request b_Ga_request 7 (some FieldType.int) (rmL 50 1 6) [.ref 2, .int (nI p), .int (nI r), .int (nI o), .int v, .int 1] L M gAll 2 L (gst (fzM (gst (apR c n M (nI a) (nI p) (nI r) (nI o)).2 6 3 0)) 6 3 0) 1 6 := by
  refine gMetX_of (lv := [some (.ref 2), some (.int (nI p)), some (.int (nI r)), some (.int (nI o)), some (.int v), some (.int 1), none]) (by decide) rfl (Nat.le_of_ble_eq_true rfl) rfl ?_
  refine V_il1 1 d_Ga_request_0 rfl ?_
  refine V_il2 2 d_Ga_request_1 rfl ?_
  refine V_il3 3 d_Ga_request_2 rfl ?_
  refine V_cS1 6 (c_Ga_isNamed l G _ _ _ _ _) ok_Ga_isNamed ml_Ga_158 st_Ga_isNamed (gRm_ok (by decide) (by decide)) rfl rfl (Nat.le_of_ble_eq_true rfl) d_Ga_request_3 ⟨Nat.le_of_ble_eq_true rfl, Nat.le_of_ble_eq_true rfl⟩ rfl ?_
  refine V_bn 19 9 d_Ga_request_6 (by decide) rfl (fun _ => ?_) (fun h9 => absurd (pNamed_nI hp hr ho) h9)
  refine V_al0 20 d_Ga_request_19 rfl ?_
  refine V_il2 21 d_Ga_request_20 rfl ?_
  refine V_il3 22 d_Ga_request_21 rfl ?_
  refine V_cV1 25 (c_Ga_isOpenTo l G _ _ hL _ o ho) ok_Ga_isOpenTo ml_Ga_162 im_Ga_isOpenTo se_Ga_isOpenTo (lC2 hL) kc_Ga (gRm_ok (by decide) (by decide)) rfl rfl (Nat.le_of_ble_eq_true rfl) d_Ga_request_22 ⟨Nat.le_of_ble_eq_true rfl, Nat.le_of_ble_eq_true rfl⟩ rfl ?_
  refine V_bn 38 28 d_Ga_request_25 (by decide) rfl (fun _ => ?_) (fun h9 => absurd hop h9)
  refine V_il5 40 d_Ga_request_38 rfl ?_
  refine V_if_eq 53 43 d_Ga_request_40 (by decide) rfl (fun h9 => absurd h9 (show ¬ (1 : Int32) = 0 by decide)) (fun _ => ?_)
  refine V_al0 44 d_Ga_request_43 rfl ?_
  refine V_il1 45 d_Ga_request_44 rfl ?_
  refine V_il2 46 d_Ga_request_45 rfl ?_
  refine V_il3 47 d_Ga_request_46 rfl ?_
  refine V_cV1 50 (c_Ga_useUpDraft l G _ _ hL c hH hs hc n hn hn4 p r o hp hr ho a ha) ok_Ga_useUpDraft ml_Ga_190 im_Ga_useUpDraft se_Ga_useUpDraft (lC2 hL) kc_Ga (gRm_ok (by decide) (by decide)) rfl rfl (Nat.le_of_ble_eq_true rfl) d_Ga_request_47 ⟨Nat.le_of_ble_eq_true rfl, Nat.le_of_ble_eq_true rfl⟩ rfl ?_
  refine V_goto 69 d_Ga_request_50 (by decide) ?_
  exact rc69w l G _ _ hL hx hb p r o hr ho v 1 _ hN _
set_option maxRecDepth 100000 in
set_option maxHeartbeats 4000000 in
theorem c_Ga_request_g (l : Launch) (G : gG) (L : gLy) (M : gMe) (hL : gLC L) (c : Nat) (hH : gLH L c) (hs : M 5 1 = nI c) (hc : c < 100) (n : Nat) (hn : M 6 3 = nI n) (hn4 : n ≤ 40) (p r o : Nat) (hp : p < 6) (hr : r < 4) (ho : o < 6) (a : Nat) (ha : (if nI r = 3 then 0 else M 24 o) = nI a) (hop : pOpen M (nI r) o) (v : Int32) (hN : 0 < (uuR c n M (nI a) (nI p) (nI r) (nI o))) (hb : fzB (gst (apR c n M (nI a) (nI p) (nI r) (nI o)).2 6 3 0) = 0) : gMet l G y_Ga_request b_Ga_request 7 (some FieldType.int) (rmL 50 0 0) [.ref 2, .int (nI p), .int (nI r), .int (nI o), .int v, .int 1] L M gAll (gPo (some (.int (coR (rqM (gst (apR c n M (nI a) (nI p) (nI r) (nI o)).2 6 3 0) (nI p) (nI r) (nI o) (uuR c n M (nI a) (nI p) (nI r) (nI o))) r o))) L (coM (rqM (gst (apR c n M (nI a) (nI p) (nI r) (nI o)).2 6 3 0) (nI p) (nI r) (nI o) (uuR c n M (nI a) (nI p) (nI r) (nI o))) (nI p) r o v)) 0 0 := by
  refine gMet_of (lv := [some (.ref 2), some (.int (nI p)), some (.int (nI r)), some (.int (nI o)), some (.int v), some (.int 1), none]) (by decide) rfl (Nat.le_of_ble_eq_true rfl) rfl ?_
  refine V_il1 1 d_Ga_request_0 rfl ?_
  refine V_il2 2 d_Ga_request_1 rfl ?_
  refine V_il3 3 d_Ga_request_2 rfl ?_
  refine V_cS1 6 (c_Ga_isNamed l G _ _ _ _ _) ok_Ga_isNamed ml_Ga_158 st_Ga_isNamed (gRm_ok (by decide) (by decide)) rfl rfl (Nat.le_of_ble_eq_true rfl) d_Ga_request_3 ⟨Nat.le_of_ble_eq_true rfl, Nat.le_of_ble_eq_true rfl⟩ rfl ?_
  refine V_bn 19 9 d_Ga_request_6 (by decide) rfl (fun _ => ?_) (fun h9 => absurd (pNamed_nI hp hr ho) h9)
  refine V_al0 20 d_Ga_request_19 rfl ?_
  refine V_il2 21 d_Ga_request_20 rfl ?_
  refine V_il3 22 d_Ga_request_21 rfl ?_
  refine V_cV1 25 (c_Ga_isOpenTo l G _ _ hL _ o ho) ok_Ga_isOpenTo ml_Ga_162 im_Ga_isOpenTo se_Ga_isOpenTo (lC2 hL) kc_Ga (gRm_ok (by decide) (by decide)) rfl rfl (Nat.le_of_ble_eq_true rfl) d_Ga_request_22 ⟨Nat.le_of_ble_eq_true rfl, Nat.le_of_ble_eq_true rfl⟩ rfl ?_
  refine V_bn 38 28 d_Ga_request_25 (by decide) rfl (fun _ => ?_) (fun h9 => absurd hop h9)
  refine V_il5 40 d_Ga_request_38 rfl ?_
  refine V_if_eq 53 43 d_Ga_request_40 (by decide) rfl (fun h9 => absurd h9 (show ¬ (1 : Int32) = 0 by decide)) (fun _ => ?_)
  refine V_al0 44 d_Ga_request_43 rfl ?_
  refine V_il1 45 d_Ga_request_44 rfl ?_
  refine V_il2 46 d_Ga_request_45 rfl ?_
  refine V_il3 47 d_Ga_request_46 rfl ?_
  refine V_cV1 50 (c_Ga_useUpDraft l G _ _ hL c hH hs hc n hn hn4 p r o hp hr ho a ha) ok_Ga_useUpDraft ml_Ga_190 im_Ga_useUpDraft se_Ga_useUpDraft (lC2 hL) kc_Ga (gRm_ok (by decide) (by decide)) rfl rfl (Nat.le_of_ble_eq_true rfl) d_Ga_request_47 ⟨Nat.le_of_ble_eq_true rfl, Nat.le_of_ble_eq_true rfl⟩ rfl ?_
  refine V_goto 69 d_Ga_request_50 (by decide) ?_
  exact rc69r l G _ _ hL hb p r o hr ho v 1 _ hN _
set_option maxRecDepth 100000 in
set_option maxHeartbeats 4000000 in
theorem x_Ga_request_p1 (l : Launch) (G : gG) (L : gLy) (M : gMe) (hL : gLC L) (hx : gEx l G) (c : Nat) (hH : gLH L c) (hs : M 5 1 = nI c) (hc : c < 100) (K : Nat → Nat → Nat) (hK : gCW M c K) (p r o : Nat) (hp : p < 6) (hr : r < 4) (ho : o < 6) (a : Nat) (ha : (if nI r = 3 then 0 else M 24 o) = nI a) (h6 : a < 6) (S : Nat → Prop) (hRe : gRe (fdM K o c (mayN a p r) M) S) (hSg : ¬ fdM K o c (mayN a p r) M 15 (mayN a p r) = 0 → S (mayN a p r)) (hop : pOpen M (nI r) o) (v : Int32) (hN : ¬ 0 < (wpR K o c (mayN a p r) M).1) : gMetX l G y_Ga_request b_Ga_request 7 (some FieldType.int) (rmL 50 1 6) [.ref 2, .int (nI p), .int (nI r), .int (nI o), .int v, .int 0] L M gAll 1 L ((wpR K o c (mayN a p r) M).2) 1 6 := by
  refine gMetX_of (lv := [some (.ref 2), some (.int (nI p)), some (.int (nI r)), some (.int (nI o)), some (.int v), some (.int 0), none]) (by decide) rfl (Nat.le_of_ble_eq_true rfl) rfl ?_
  refine V_il1 1 d_Ga_request_0 rfl ?_
  refine V_il2 2 d_Ga_request_1 rfl ?_
  refine V_il3 3 d_Ga_request_2 rfl ?_
  refine V_cS1 6 (c_Ga_isNamed l G _ _ _ _ _) ok_Ga_isNamed ml_Ga_158 st_Ga_isNamed (gRm_ok (by decide) (by decide)) rfl rfl (Nat.le_of_ble_eq_true rfl) d_Ga_request_3 ⟨Nat.le_of_ble_eq_true rfl, Nat.le_of_ble_eq_true rfl⟩ rfl ?_
  refine V_bn 19 9 d_Ga_request_6 (by decide) rfl (fun _ => ?_) (fun h9 => absurd (pNamed_nI hp hr ho) h9)
  refine V_al0 20 d_Ga_request_19 rfl ?_
  refine V_il2 21 d_Ga_request_20 rfl ?_
  refine V_il3 22 d_Ga_request_21 rfl ?_
  refine V_cV1 25 (c_Ga_isOpenTo l G _ _ hL _ o ho) ok_Ga_isOpenTo ml_Ga_162 im_Ga_isOpenTo se_Ga_isOpenTo (lC2 hL) kc_Ga (gRm_ok (by decide) (by decide)) rfl rfl (Nat.le_of_ble_eq_true rfl) d_Ga_request_22 ⟨Nat.le_of_ble_eq_true rfl, Nat.le_of_ble_eq_true rfl⟩ rfl ?_
  refine V_bn 38 28 d_Ga_request_25 (by decide) rfl (fun _ => ?_) (fun h9 => absurd hop h9)
  refine V_il5 40 d_Ga_request_38 rfl ?_
  refine V_if_eq 53 43 d_Ga_request_40 (by decide) rfl (fun _ => ?_) (fun h9 => absurd (show (0 : Int32) = 0 from rfl) h9)
  refine V_al0 54 d_Ga_request_53 rfl ?_
  refine V_getr 57 4 (lC2 hL) kc_Ga (by decide) fl_Ga_34 (Or.inl rfl) rfl d_Ga_request_54 rfl ?_
  refine V_al0 58 d_Ga_request_57 rfl ?_
  refine V_il2 59 d_Ga_request_58 rfl ?_
  refine V_il3 60 d_Ga_request_59 rfl ?_
  refine V_cV1 63 (c_Ga_sayerOfGoal l G _ _ hL _ o ho) ok_Ga_sayerOfGoal ml_Ga_166 im_Ga_sayerOfGoal se_Ga_sayerOfGoal (lC2 hL) kc_Ga (gRm_ok (by decide) (by decide)) rfl rfl (Nat.le_of_ble_eq_true rfl) d_Ga_request_60 ⟨Nat.le_of_ble_eq_true rfl, Nat.le_of_ble_eq_true rfl⟩ rfl ?_
  refine V_topi ha ?_
  refine V_il1 64 d_Ga_request_63 rfl ?_
  refine V_il2 65 d_Ga_request_64 rfl ?_
  refine V_il3 66 d_Ga_request_65 rfl ?_
  refine V_cV1 69 (c_Pv_writeProof l G _ _ hL c hH hs hc K hK a p r o h6 hp hr ho S hRe hSg) ok_Pv_writeProof ml_Ga_170 im_Pv_writeProof se_Pv_writeProof (lC10 hL) kc_Pv (gRm_ok (by decide) (by decide)) rfl rfl (Nat.le_of_ble_eq_true rfl) d_Ga_request_66 ⟨Nat.le_of_ble_eq_true rfl, Nat.le_of_ble_eq_true rfl⟩ rfl ?_
  exact rc69u l G _ _ hL hx p r o hr ho v 0 _ hN _
set_option maxRecDepth 100000 in
set_option maxHeartbeats 4000000 in
theorem x_Ga_request_p2 (l : Launch) (G : gG) (L : gLy) (M : gMe) (hL : gLC L) (hx : gEx l G) (c : Nat) (hH : gLH L c) (hs : M 5 1 = nI c) (hc : c < 100) (K : Nat → Nat → Nat) (hK : gCW M c K) (p r o : Nat) (hp : p < 6) (hr : r < 4) (ho : o < 6) (a : Nat) (ha : (if nI r = 3 then 0 else M 24 o) = nI a) (h6 : a < 6) (S : Nat → Prop) (hRe : gRe (fdM K o c (mayN a p r) M) S) (hSg : ¬ fdM K o c (mayN a p r) M 15 (mayN a p r) = 0 → S (mayN a p r)) (hop : pOpen M (nI r) o) (v : Int32) (hN : 0 < (wpR K o c (mayN a p r) M).1) (hb : ¬ fzB (wpR K o c (mayN a p r) M).2 = 0) : gMetX l G y_Ga_request b_Ga_request 7 (some FieldType.int) (rmL 50 1 6) [.ref 2, .int (nI p), .int (nI r), .int (nI o), .int v, .int 0] L M gAll 2 L (gst (fzM (wpR K o c (mayN a p r) M).2) 6 3 0) 1 6 := by
  refine gMetX_of (lv := [some (.ref 2), some (.int (nI p)), some (.int (nI r)), some (.int (nI o)), some (.int v), some (.int 0), none]) (by decide) rfl (Nat.le_of_ble_eq_true rfl) rfl ?_
  refine V_il1 1 d_Ga_request_0 rfl ?_
  refine V_il2 2 d_Ga_request_1 rfl ?_
  refine V_il3 3 d_Ga_request_2 rfl ?_
  refine V_cS1 6 (c_Ga_isNamed l G _ _ _ _ _) ok_Ga_isNamed ml_Ga_158 st_Ga_isNamed (gRm_ok (by decide) (by decide)) rfl rfl (Nat.le_of_ble_eq_true rfl) d_Ga_request_3 ⟨Nat.le_of_ble_eq_true rfl, Nat.le_of_ble_eq_true rfl⟩ rfl ?_
  refine V_bn 19 9 d_Ga_request_6 (by decide) rfl (fun _ => ?_) (fun h9 => absurd (pNamed_nI hp hr ho) h9)
  refine V_al0 20 d_Ga_request_19 rfl ?_
  refine V_il2 21 d_Ga_request_20 rfl ?_
  refine V_il3 22 d_Ga_request_21 rfl ?_
  refine V_cV1 25 (c_Ga_isOpenTo l G _ _ hL _ o ho) ok_Ga_isOpenTo ml_Ga_162 im_Ga_isOpenTo se_Ga_isOpenTo (lC2 hL) kc_Ga (gRm_ok (by decide) (by decide)) rfl rfl (Nat.le_of_ble_eq_true rfl) d_Ga_request_22 ⟨Nat.le_of_ble_eq_true rfl, Nat.le_of_ble_eq_true rfl⟩ rfl ?_
  refine V_bn 38 28 d_Ga_request_25 (by decide) rfl (fun _ => ?_) (fun h9 => absurd hop h9)
  refine V_il5 40 d_Ga_request_38 rfl ?_
  refine V_if_eq 53 43 d_Ga_request_40 (by decide) rfl (fun _ => ?_) (fun h9 => absurd (show (0 : Int32) = 0 from rfl) h9)
  refine V_al0 54 d_Ga_request_53 rfl ?_
  refine V_getr 57 4 (lC2 hL) kc_Ga (by decide) fl_Ga_34 (Or.inl rfl) rfl d_Ga_request_54 rfl ?_
  refine V_al0 58 d_Ga_request_57 rfl ?_
  refine V_il2 59 d_Ga_request_58 rfl ?_
  refine V_il3 60 d_Ga_request_59 rfl ?_
  refine V_cV1 63 (c_Ga_sayerOfGoal l G _ _ hL _ o ho) ok_Ga_sayerOfGoal ml_Ga_166 im_Ga_sayerOfGoal se_Ga_sayerOfGoal (lC2 hL) kc_Ga (gRm_ok (by decide) (by decide)) rfl rfl (Nat.le_of_ble_eq_true rfl) d_Ga_request_60 ⟨Nat.le_of_ble_eq_true rfl, Nat.le_of_ble_eq_true rfl⟩ rfl ?_
  refine V_topi ha ?_
  refine V_il1 64 d_Ga_request_63 rfl ?_
  refine V_il2 65 d_Ga_request_64 rfl ?_
  refine V_il3 66 d_Ga_request_65 rfl ?_
  refine V_cV1 69 (c_Pv_writeProof l G _ _ hL c hH hs hc K hK a p r o h6 hp hr ho S hRe hSg) ok_Pv_writeProof ml_Ga_170 im_Pv_writeProof se_Pv_writeProof (lC10 hL) kc_Pv (gRm_ok (by decide) (by decide)) rfl rfl (Nat.le_of_ble_eq_true rfl) d_Ga_request_66 ⟨Nat.le_of_ble_eq_true rfl, Nat.le_of_ble_eq_true rfl⟩ rfl ?_
  exact rc69w l G _ _ hL hx hb p r o hr ho v 0 _ hN _
set_option maxRecDepth 100000 in
set_option maxHeartbeats 4000000 in
theorem c_Ga_request_p (l : Launch) (G : gG) (L : gLy) (M : gMe) (hL : gLC L) (c : Nat) (hH : gLH L c) (hs : M 5 1 = nI c) (hc : c < 100) (K : Nat → Nat → Nat) (hK : gCW M c K) (p r o : Nat) (hp : p < 6) (hr : r < 4) (ho : o < 6) (a : Nat) (ha : (if nI r = 3 then 0 else M 24 o) = nI a) (h6 : a < 6) (S : Nat → Prop) (hRe : gRe (fdM K o c (mayN a p r) M) S) (hSg : ¬ fdM K o c (mayN a p r) M 15 (mayN a p r) = 0 → S (mayN a p r)) (hop : pOpen M (nI r) o) (v : Int32) (hN : 0 < (wpR K o c (mayN a p r) M).1) (hb : fzB (wpR K o c (mayN a p r) M).2 = 0) : gMet l G y_Ga_request b_Ga_request 7 (some FieldType.int) (rmL 50 0 0) [.ref 2, .int (nI p), .int (nI r), .int (nI o), .int v, .int 0] L M gAll (gPo (some (.int (coR (rqM (wpR K o c (mayN a p r) M).2 (nI p) (nI r) (nI o) (wpR K o c (mayN a p r) M).1) r o))) L (coM (rqM (wpR K o c (mayN a p r) M).2 (nI p) (nI r) (nI o) (wpR K o c (mayN a p r) M).1) (nI p) r o v)) 0 0 := by
  refine gMet_of (lv := [some (.ref 2), some (.int (nI p)), some (.int (nI r)), some (.int (nI o)), some (.int v), some (.int 0), none]) (by decide) rfl (Nat.le_of_ble_eq_true rfl) rfl ?_
  refine V_il1 1 d_Ga_request_0 rfl ?_
  refine V_il2 2 d_Ga_request_1 rfl ?_
  refine V_il3 3 d_Ga_request_2 rfl ?_
  refine V_cS1 6 (c_Ga_isNamed l G _ _ _ _ _) ok_Ga_isNamed ml_Ga_158 st_Ga_isNamed (gRm_ok (by decide) (by decide)) rfl rfl (Nat.le_of_ble_eq_true rfl) d_Ga_request_3 ⟨Nat.le_of_ble_eq_true rfl, Nat.le_of_ble_eq_true rfl⟩ rfl ?_
  refine V_bn 19 9 d_Ga_request_6 (by decide) rfl (fun _ => ?_) (fun h9 => absurd (pNamed_nI hp hr ho) h9)
  refine V_al0 20 d_Ga_request_19 rfl ?_
  refine V_il2 21 d_Ga_request_20 rfl ?_
  refine V_il3 22 d_Ga_request_21 rfl ?_
  refine V_cV1 25 (c_Ga_isOpenTo l G _ _ hL _ o ho) ok_Ga_isOpenTo ml_Ga_162 im_Ga_isOpenTo se_Ga_isOpenTo (lC2 hL) kc_Ga (gRm_ok (by decide) (by decide)) rfl rfl (Nat.le_of_ble_eq_true rfl) d_Ga_request_22 ⟨Nat.le_of_ble_eq_true rfl, Nat.le_of_ble_eq_true rfl⟩ rfl ?_
  refine V_bn 38 28 d_Ga_request_25 (by decide) rfl (fun _ => ?_) (fun h9 => absurd hop h9)
  refine V_il5 40 d_Ga_request_38 rfl ?_
  refine V_if_eq 53 43 d_Ga_request_40 (by decide) rfl (fun _ => ?_) (fun h9 => absurd (show (0 : Int32) = 0 from rfl) h9)
  refine V_al0 54 d_Ga_request_53 rfl ?_
  refine V_getr 57 4 (lC2 hL) kc_Ga (by decide) fl_Ga_34 (Or.inl rfl) rfl d_Ga_request_54 rfl ?_
  refine V_al0 58 d_Ga_request_57 rfl ?_
  refine V_il2 59 d_Ga_request_58 rfl ?_
  refine V_il3 60 d_Ga_request_59 rfl ?_
  refine V_cV1 63 (c_Ga_sayerOfGoal l G _ _ hL _ o ho) ok_Ga_sayerOfGoal ml_Ga_166 im_Ga_sayerOfGoal se_Ga_sayerOfGoal (lC2 hL) kc_Ga (gRm_ok (by decide) (by decide)) rfl rfl (Nat.le_of_ble_eq_true rfl) d_Ga_request_60 ⟨Nat.le_of_ble_eq_true rfl, Nat.le_of_ble_eq_true rfl⟩ rfl ?_
  refine V_topi ha ?_
  refine V_il1 64 d_Ga_request_63 rfl ?_
  refine V_il2 65 d_Ga_request_64 rfl ?_
  refine V_il3 66 d_Ga_request_65 rfl ?_
  refine V_cV1 69 (c_Pv_writeProof l G _ _ hL c hH hs hc K hK a p r o h6 hp hr ho S hRe hSg) ok_Pv_writeProof ml_Ga_170 im_Pv_writeProof se_Pv_writeProof (lC10 hL) kc_Pv (gRm_ok (by decide) (by decide)) rfl rfl (Nat.le_of_ble_eq_true rfl) d_Ga_request_66 ⟨Nat.le_of_ble_eq_true rfl, Nat.le_of_ble_eq_true rfl⟩ rfl ?_
  exact rc69r l G _ _ hL hb p r o hr ho v 0 _ hN _

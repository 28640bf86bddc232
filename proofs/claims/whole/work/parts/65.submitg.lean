/-! the class: submit takes a credential -/
theorem V_pad {l : Launch} {G : gG} {y : MethodName} {cc : ByteArray} {nL : Nat} {ret : Option FieldType} {R : Room} {mc ms : Nat} {Z : Nat → Prop} {post : Option Value → gLy → gMe → Prop} {L : gLy} {M : gMe} {cells slots cells' slots' : Nat} {lv : List (Option Value)} {pc : Nat} {st : List Value} (hc : cells ≤ cells') (hs : slots ≤ slots') (kk : V l G y cc nL ret R mc ms Z post L M cells' slots' lv pc st) : V l G y cc nL ret R mc ms Z post L M cells slots lv pc st := by
  intro p e s m args below meth c r0 r H locs ls hC hZ hW hR hlo hls T hT X
  exact kk p e s m args below meth c r0 r H locs ls hC hZ hW hR hlo hls T hT { X with same := X.same.weaken (fun y hy hlt => hy) hc hs }
theorem gLP_eq {L L' : gLy} {b : Nat} (h : gLP L b) (q : ∀ x, b ≤ x → x ≤ b + 3 → L' x = L x) : gLP L' b := ⟨(q b (by omega) (by omega)).trans h.1, (q _ (by omega) (by omega)).trans h.2.1, (q _ (by omega) (by omega)).trans h.2.2.1, (q _ (by omega) (by omega)).trans h.2.2.2⟩
theorem gLC_eq {L L' : gLy} (h : gLC L) (q : ∀ x, 2 ≤ x → x < 140 → x ≠ 5 → (x < 26 ∨ 30 ≤ x) → L' x = L x) : gLC L' :=
  ⟨(q 2 (by decide) (by decide) (by decide) (by decide)).trans (lC2 h), (q 3 (by decide) (by decide) (by decide) (by decide)).trans (lC3 h), (q 4 (by decide) (by decide) (by decide) (by decide)).trans (lC4 h), gLP_eq (lC6 h) (fun x a b => q x (by omega) (by omega) (by omega) (by omega)), (q 10 (by decide) (by decide) (by decide) (by decide)).trans (lC10 h), gLP_eq (lC11 h) (fun x a b => q x (by omega) (by omega) (by omega) (by omega)), (q 15 (by decide) (by decide) (by decide) (by decide)).trans (lC15 h), (q 16 (by decide) (by decide) (by decide) (by decide)).trans (lC16 h), (q 17 (by decide) (by decide) (by decide) (by decide)).trans (lC17 h), (q 18 (by decide) (by decide) (by decide) (by decide)).trans (lC18 h), (q 19 (by decide) (by decide) (by decide) (by decide)).trans (lC19 h), (q 20 (by decide) (by decide) (by decide) (by decide)).trans (lC20 h), (q 21 (by decide) (by decide) (by decide) (by decide)).trans (lC21 h), (q 22 (by decide) (by decide) (by decide) (by decide)).trans (lC22 h), (q 23 (by decide) (by decide) (by decide) (by decide)).trans (lC23 h), (q 24 (by decide) (by decide) (by decide) (by decide)).trans (lC24 h), (q 25 (by decide) (by decide) (by decide) (by decide)).trans (lC25 h), fun k hk => (q (100 + k) (by omega) (by omega) (by omega) (by omega)).trans (lCF h hk)⟩
/-- the list holds c credentials in the row at e -/
def gLE (L : gLy) (c e cap : Nat) : Prop := L 5 = l5 e ∧ (0 < c → L e = some (.inl (4, cap, some (some (lsF c)))) ∧ c ≤ cap ∧ cap < 100) ∧ gCrs L c
theorem gLE.h {L : gLy} {c e cap : Nat} (h : gLE L c e cap) : gLH L c := ⟨e, cap, h.1, h.2.1, h.2.2⟩
theorem gCrs_eq {L L' : gLy} {c : Nat} (h : gCrs L c) (q : ∀ x, 202 ≤ x → x < cP (c + 1) → L' x = L x) : gCrs L' c := fun n a b => by
  have h1 : 202 ≤ cP n := by unfold cP; omega
  have h2 : cP n + 1 < cP (c + 1) := by unfold cP; omega
  exact ⟨(q _ h1 (by omega)).trans (h n a b).1, (q _ (by omega) h2).trans (h n a b).2⟩
theorem gLE_eq {L L' : gLy} {c e cap : Nat} (h : gLE L c e cap) (h5 : L' 5 = L 5) (he : 0 < c → L' e = L e) (q : ∀ x, 202 ≤ x → x < cP (c + 1) → L' x = L x) : gLE L' c e cap := ⟨h5.trans h.1, fun hc => ⟨(he hc).trans (h.2.1 hc).1, (h.2.1 hc).2⟩, gCrs_eq h.2.2 q⟩
theorem fzB_eq {M M' : gMe} (h : M' 23 0 = M 23 0) : fzB M' = fzB M := by unfold fzB; rw [h]
theorem fzM_ne {M : gMe} {q : Nat} (h : q ≠ 23) : fzM M q = M q := by
  unfold fzM
  split
  · rfl
  · exact gst_ne _ _ _ _ h
/-- the memory where the list takes it -/
def sb2 (M : gMe) (a : Nat) (i k f t : Int32) : gMe := fzM (sb1 M a i k f t)
set_option maxRecDepth 100000 in
set_option maxHeartbeats 4000000 in
theorem c_Ga_submit (l : Launch) (G : gG) (L : gLy) (M : gMe) (hL : gLC L) (hs : gSt G) (c e cap : Nat) (hE : gLE L c e cap) (hsz : M 5 1 = nI c) (h24 : c < 24) (he : e < 200) (ha : L (cP (c + 1)) = none) (hn : L (cP (c + 1) + 1) = none) (i k f t s : Int32) (hw : pWf (sb1 M (cP (c + 1)) i k f t) (cP (c + 1)) (cP (c + 1) + 1)) (hse : soI (sb1 M (cP (c + 1)) i k f t) (cP (c + 1)) (cP (c + 1) + 1) = s) (hb : fzB M = 0) (L' : gLy) (M' : gMe) (d mc ms : Nat) (hd : d ≤ 6) (hmc : mc ≤ 1) (hms : ms ≤ 33) (Z : Nat → Prop) (hZ : ∀ x, (x < 26 ∨ x = cP (c + 1) ∨ x = 450) → Z x) (h2 : gA2 l G (sbL L (cP (c + 1))) L' (gst (sb2 M (cP (c + 1)) i k f t) 5 2 (sb2 M (cP (c + 1)) i k f t 5 2 + 1)) M' e c d mc ms Z) (h4' : L' 4 = some (.inr (4, [some (.ref 5), none]))) (hH' : gLH L' (c + 1)) (hs' : M' 5 1 = nI (c + 1)) : gMet l G y_Ga_submit b_Ga_submit 7 (some FieldType.int) (rmL 9 3 43) [.ref 2, .int i, .int k, .int f, .int t, .int s] L M (fun x => Z x ∧ x ≠ cP (c + 1) ∧ x ≠ cP (c + 1) + 1) (gPo (some (.int (nI (c + 1)))) L' M') 3 43 := by
  obtain ⟨a, ea⟩ : ∃ a, a = cP (c + 1) := ⟨_, rfl⟩
  have ha9 : 200 ≤ a := by rw [ea]; unfold cP; omega
  have hqL : ∀ q, q < 200 → sbL L (cP (c + 1)) q = L q := fun q hq => sbL_ne (by omega) (by omega)
  have hqM : ∀ q, q < 200 → sb1 M (cP (c + 1)) i k f t q = M q := fun q hq => sb1_ne (by omega) (by omega)
  have hL' : gLC (sbL L (cP (c + 1))) := gLC_eq hL (fun x a b _ _ => hqL x (by omega))
  have hE' : gLE (sbL L (cP (c + 1))) c e cap := gLE_eq hE (hqL 5 (by decide)) (fun _ => hqL e he) (fun x a b => sbL_ne (by omega) (by omega))
  refine gMet_of (lv := [some (.ref 2), some (.int i), some (.int k), some (.int f), some (.int t), some (.int s), none]) (by decide) rfl (Nat.le_of_ble_eq_true rfl) rfl ?_
  refine sub18 (lC3 hL) (lC2 hL) hs (cP (c + 1)) (by omega) ha hn (fun x hx => hx.2) (by decide) (by decide) (by decide) i k f t s ?_
  have hq2 := lC2 hL'
  refine V_al6 20 d_Ga_submit_18 rfl ?_
  refine V_cV1 23 (c_Cr_isWellFormed l G _ _ hs (cP (c + 1)) (cP (c + 1) + 1) sbLR) ok_Cr_isWellFormed ml_Ga_82 im_Cr_isWellFormed se_Cr_isWellFormed sbLR.1 kc_Cr (gRm_ok (by decide) (by decide)) rfl rfl (Nat.le_of_ble_eq_true rfl) d_Ga_submit_20 ⟨(Nat.le_of_ble_eq_true rfl), (Nat.le_of_ble_eq_true rfl)⟩ rfl ?_
  refine V_bn 36 26 d_Ga_submit_23 (by decide) rfl (fun _ => ?_) (fun h9 => absurd hw h9)
  refine V_al0 37 d_Ga_submit_36 rfl ?_
  refine V_al6 39 d_Ga_submit_37 rfl ?_
  refine V_cV1 42 (c_Ga_sealOf' l G _ _ hq2 (cP (c + 1)) (cP (c + 1) + 1) sbLR) ok_Ga_sealOf ml_Ga_78 im_Ga_sealOf se_Ga_sealOf hq2 kc_Ga (gRm_ok (by decide) (by decide)) rfl rfl (Nat.le_of_ble_eq_true rfl) d_Ga_submit_39 ⟨(Nat.le_of_ble_eq_true rfl), (Nat.le_of_ble_eq_true rfl)⟩ rfl ?_
  refine V_il5 44 d_Ga_submit_42 rfl ?_
  refine V_icmp_eq 57 47 d_Ga_submit_44 (by decide) rfl (fun _ => ?_) (fun h9 => absurd hse h9)
  refine V_al0 58 d_Ga_submit_57 rfl ?_
  refine V_getr 61 2 hq2 kc_Ga (by decide) fl_Ga_18 (Or.inl rfl) rfl d_Ga_submit_58 rfl ?_
  refine V_cV1 64 (c_Cs_count l G _ _ hL' c hE'.h) ok_Cs_count ml_Ga_98 im_Cs_count se_Cs_count (lC4 hL') kc_Cs (gRm_ok (by decide) (by decide)) rfl rfl (Nat.le_of_ble_eq_true rfl) d_Ga_submit_61 ⟨(Nat.le_of_ble_eq_true rfl), (Nat.le_of_ble_eq_true rfl)⟩ rfl ?_
  refine V_topi (z := nI c) (by rw [hqM 5 (by decide)]; exact hsz) ?_
  refine V_bipush 66 (v := 24) (by decide) d_Ga_submit_64 rfl ?_
  refine V_icmp_lt 79 69 d_Ga_submit_66 (by decide) rfl (fun _ => ?_) (fun h9 => absurd (nI_lt (b := 24) h24 (by decide)) h9)
  refine V_al0 80 d_Ga_submit_79 rfl ?_
  refine V_cV0 83 (as := []) (c_Ga_writeRecord l G _ _ hL' ((fzB_eq (by rw [hqM 23 (by decide)])).trans hb)) ok_Ga_writeRecord ml_Ga_107 im_Ga_writeRecord se_Ga_writeRecord hq2 kc_Ga (gRm_ok (by decide) (by decide)) rfl rfl (Nat.le_of_ble_eq_true rfl) d_Ga_submit_80 ⟨(Nat.le_of_ble_eq_true rfl), (Nat.le_of_ble_eq_true rfl)⟩ rfl ?_
  refine V_al0 84 d_Ga_submit_83 rfl ?_
  refine V_getr 87 2 hq2 kc_Ga (by decide) fl_Ga_18 (Or.inl rfl) rfl d_Ga_submit_84 rfl ?_
  refine V_al6 89 d_Ga_submit_87 rfl ?_
  refine V_callV 92 (as := [.ref (cP (c + 1))]) (c_Cs_take l G _ L' _ M' e c d mc ms hd Z (hZ 4 (by omega)) (hZ 5 (by omega)) (hZ _ (by omega)) (lC4 hL') hE'.1 (by rw [fzM_ne (by decide), hqM 5 (by decide)]; exact hsz) h2 h4' hH' hs') ok_Cs_take ml_Ga_110 im_Cs_take se_Cs_take (lC4 hL') kc_Cs (gRm_ok (by decide) (by decide)) rfl rfl (Nat.le_of_ble_eq_true rfl) d_Ga_submit_89 ⟨show 2 + mc ≤ 3 by omega, show 10 + ms ≤ 43 by omega⟩ (fun x hx => hx.1) ⟨fun x hx => ?_, fun x hx => ?_⟩ rfl ?_
  · simp at hx; rcases hx with h9 | h9
    · rw [h9]; exact hZ 2 (by omega)
    · rw [h9]; exact hZ _ (by omega)
  · simp at hx
  intro v9 L9 M9 hpo
  obtain ⟨rfl, rfl, rfl⟩ := hpo
  refine V_pad (cells' := 3) (slots' := 43) (show 2 + mc ≤ 3 by omega) (show 10 + ms ≤ 43 by omega) ?_
  exact V_iret rfl d_Ga_submit_92 ⟨rfl, rfl, rfl⟩

/-! each call, class beside reference -/
def gLay (L : gLy) (c : Nat) : Prop := gLY L c ∧ gLM L ∧ L 450 = some (.inl (2, 1, some none))
theorem rel_mid {M M1 : gMe} {c : Nat} {K : Nat → Nat → Nat} (h : gRl M M c K) (e : ∀ b, 400 ≤ b → b ≠ 450 → M1 b = M b) : gRl M M1 c K := h.cR ⟨fun b x y => e b (by omega) (by omega), fun k _ _ _ _ => by rw [e 400 (by decide) (by decide)]⟩
theorem rel_fin {M1 M2 : gMe} {c : Nat} {K : Nat → Nat → Nat} (h : gRl M1 M2 c K) (e : ∀ b, b < 400 → M2 b = M1 b) : gRl M2 M2 c K := h.cC (fun b hb => e b (by omega))
theorem mF_lo {N : gMe} {b : Nat} (h : b ≠ 400) : mF N b = N b := by unfold mF; exact gst_ne _ _ _ _ h
/-- one call on both sides, with one answer -/
def pr1 (l : Launch) (G : gG) (L : gLy) (M : gMe) (c : Nat) (K : Nat → Nat → Nat) (y1 : MethodName) (cc1 : ByteArray) (nL1 : Nat) (ret1 : Option FieldType) (d1 : Nat) (as1 : List Value) (y2 : MethodName) (cc2 : ByteArray) (nL2 : Nat) (ret2 : Option FieldType) (d2 : Nat) (as2 : List Value) : Prop :=
  ∃ (v : Int32) (M1 M2 : gMe), gMet l G y1 cc1 nL1 ret1 (rmL d1 0 0) (.ref 2 :: as1) L M gAll (gPo (some (.int v)) L M1) 0 0 ∧ gMet l G y2 cc2 nL2 ret2 (rmL d2 0 0) (.ref 400 :: as2) L M1 gAll (gPo (some (.int v)) L M2) 0 0 ∧ gRl M2 M2 c K
section gPairs
variable {l : Launch} {G : gG} {L : gLy} {M : gMe} {c : Nat} {K : Nat → Nat → Nat}
theorem z_pass (hA : gLay L c) (h : gRl M M c K) (n : Int32) : pr1 l G L M c K y_Ga_pass b_Ga_pass 2 (some FieldType.int) 2 [.int n] y_Mo_pass b_Mo_pass 2 (some FieldType.int) 2 [.int n] := by
  have e1 : ∀ b, b ≠ 4 → paM M n b = M b := fun b hb => by unfold paM; split; exact gst_ne _ _ _ _ hb; rfl
  have h1 := rel_mid h (fun b hb _ => e1 b (by omega))
  obtain ⟨p1, p2⟩ := o_pass h1 n
  refine ⟨paR M n, paM M n, mPs (paM M n) n, c_Ga_pass l G L M hA.1.1 n, ?_, rel_fin p2 (fun b hb => by unfold mPs; split; rw [gst_ne _ _ _ _ (by omega)]; exact mF_lo (by omega); exact mF_lo (by omega))⟩
  rw [p1]; exact c_Mo_pass l G L _ hA.2.1 n
theorem z_step (hA : gLay L c) (h : gRl M M c K) (r x z : Int32) : pr1 l G L M c K y_Ga_step b_Ga_step 4 (some FieldType.int) 2 [.int r, .int x, .int z] y_Mo_step b_Mo_step 4 (some FieldType.int) 1 [.int r, .int x, .int z] := by
  obtain ⟨n, n4, n1, n2⟩ := h.d
  by_cases h4 : n < 40
  · have h1 := rel_mid (M1 := pfApp M 6 n r x z) h (fun b hb _ => pfApp_ne (by omega))
    obtain ⟨p1, p2⟩ := o_step h1 n1 h4 r x z
    refine ⟨nI n, pfApp M 6 n r x z, _, c_Ga_step l G L M hA.1.1 n n1 h4 r x z, c_Mo_step l G L _ hA.2.1 n p1 h4 r x z, rel_fin p2 (fun b hb => ?_)⟩
    unfold mAp; rw [gst_ne _ _ _ _ (by omega), gst_ne _ _ _ _ (by omega), gst_ne _ _ _ _ (by omega), gst_ne _ _ _ _ (by omega)]; exact mF_lo (by omega)
  · obtain rfl : n = 40 := by omega
    exact ⟨-1, M, mF M, c_Ga_step_full l G L M hA.1.1 n1 r x z, c_Mo_step_full l G L M hA.2.1 n2 r x z, rel_fin (h.cR eR_mF) (fun b hb => mF_lo (by omega))⟩
theorem z_clear (hA : gLay L c) (h : gRl M M c K) : pr1 l G L M c K y_Ga_clear b_Ga_clear 1 (some FieldType.int) 2 [] y_Mo_clear b_Mo_clear 2 (some FieldType.int) 1 [] := by
  have h1 := rel_mid (M1 := gst M 6 3 0) h (fun b hb _ => gst_ne _ _ _ _ (by omega))
  obtain ⟨p1, p2⟩ := o_clear h1
  refine ⟨M 6 3, gst M 6 3 0, _, c_Ga_clear l G L M hA.1.1, ?_, rel_fin p2 (fun b hb => by rw [gst_ne _ _ _ _ (by omega)]; exact mF_lo (by omega))⟩
  rw [p1]; exact c_Mo_clear l G L _ hA.2.1
theorem z_steps (hA : gLay L c) (h : gRl M M c K) : pr1 l G L M c K y_Ga_steps b_Ga_steps 1 (some FieldType.int) 2 [] y_Mo_steps b_Mo_steps 1 (some FieldType.int) 1 [] := by
  obtain ⟨n, n4, n1, n2⟩ := h.d
  refine ⟨M 6 3, M, _, c_Ga_steps l G L M hA.1.1, ?_, rel_fin (h.cR eR_mF) (fun b hb => mF_lo (by omega))⟩
  rw [show M 6 3 = mF M 400 21 from by rw [eR_mF.2 21 (by decide) (by decide) (by decide) (by decide), n1, n2]]
  exact c_Mo_steps l G L _ hA.2.1
theorem z_credentials (hA : gLay L c) (h : gRl M M c K) : pr1 l G L M c K y_Ga_credentials b_Ga_credentials 1 (some FieldType.int) 3 [] y_Mo_credentials b_Mo_credentials 1 (some FieldType.int) 1 [] := by
  have q := h.2.2.2.2.1.1
  refine ⟨M 5 1, M, _, c_Ga_credentials l G L M hA.1.1 c hA.1.2.1.h q.2.1, ?_, rel_fin (h.cR eR_mF) (fun b hb => mF_lo (by omega))⟩
  rw [show M 5 1 = mF M 400 10 from by rw [eR_mF.2 10 (by decide) (by decide) (by decide) (by decide), q.2.1, q.2.2]]
  exact c_Mo_credentials l G L _ hA.2.1
theorem z_grants (hA : gLay L c) (h : gRl M M c K) : pr1 l G L M c K y_Ga_grants b_Ga_grants 1 (some FieldType.int) 2 [] y_Mo_grants b_Mo_grants 1 (some FieldType.int) 1 [] := by
  refine ⟨M 22 0, M, _, c_Ga_grants l G L M hA.1.1, ?_, rel_fin (h.cR eR_mF) (fun b hb => mF_lo (by omega))⟩
  rw [show M 22 0 = mF M 400 8 from by rw [eR_mF.2 8 (by decide) (by decide) (by decide) (by decide)]; exact h.2.2.2.1.1]
  exact c_Mo_grants l G L _ hA.2.1
theorem z_chain (hA : gLay L c) (h : gRl M M c K) : pr1 l G L M c K y_Ga_chain b_Ga_chain 1 (some FieldType.int) 2 [] y_Mo_chain b_Mo_chain 1 (some FieldType.int) 1 [] := by
  refine ⟨M 22 1, M, _, c_Ga_chain l G L M hA.1.1, ?_, rel_fin (h.cR eR_mF) (fun b hb => mF_lo (by omega))⟩
  rw [show M 22 1 = mF M 400 9 from by rw [eR_mF.2 9 (by decide) (by decide) (by decide) (by decide)]; exact h.2.2.2.1.2]
  exact c_Mo_chain l G L _ hA.2.1
theorem z_fuse (hA : gLay L c) (h : gRl M M c K) (n : Int32) : pr1 l G L M c K y_Ga_fuse b_Ga_fuse 2 (some FieldType.boolean) 2 [.int n] y_Mo_fuse b_Mo_fuse 2 (some FieldType.boolean) 2 [.int n] := by
  have e1 : ∀ b, b ≠ 23 → fuM M n b = M b := fun b hb => by unfold fuM; split; exact gst_ne _ _ _ _ hb; rfl
  have h1 := rel_mid h (fun b hb _ => e1 b (by omega))
  obtain ⟨p1, p2⟩ := o_fuse h1 n
  refine ⟨bi (pFuse n), fuM M n, mfu (fuM M n) n, c_Ga_fuse l G L M hA.1.1 n, ?_, rel_fin p2 (fun b hb => by unfold mfu; split; rw [gst_ne _ _ _ _ (by omega), gst_ne _ _ _ _ (by omega)]; exact mF_lo (by omega); exact mF_lo (by omega))⟩
  rw [p1]; exact c_Mo_fuse l G L _ hA.2.1 n
theorem z_owner (hA : gLay L c) (h : gRl M M c K) (x : Int32) : pr1 l G L M c K y_Ga_owner b_Ga_owner 2 (some FieldType.int) 2 [.int x] y_Mo_owner b_Mo_owner 2 (some FieldType.int) 2 [.int x] := by
  refine ⟨_, M, _, c_Ga_owner l G L M hA.1.1 x, ?_, rel_fin (h.cR eR_mF) (fun b hb => mF_lo (by omega))⟩
  rw [o_owner h x]; exact c_Mo_owner l G L _ hA.2.1 x
theorem z_valid (hA : gLay L c) (h : gRl M M c K) (x : Int32) : pr1 l G L M c K y_Ga_valid b_Ga_valid 2 (some FieldType.boolean) 6 [.int x] y_Mo_valid b_Mo_valid 2 (some FieldType.boolean) 3 [.int x] := by
  have q := h.2.2.2.2.1.1
  refine ⟨_, M, _, c_Ga_valid l G L M hA.1.1 c hA.1.2.1.h q.2.1 (by omega) x, ?_, rel_fin (h.cR eR_mF) (fun b hb => mF_lo (by omega))⟩
  rw [o_valid (h.cR eR_mF) x]; exact c_Mo_valid l G L _ hA.2.1 c q.2.2 (by omega) x
theorem z_stepAt (hA : gLay L c) (h : gRl M M c K) (k w : Int32) : pr1 l G L M c K y_Ga_stepAt b_Ga_stepAt 3 (some FieldType.int) 2 [.int k, .int w] y_Mo_stepAt b_Mo_stepAt 3 (some FieldType.int) 2 [.int k, .int w] := by
  obtain ⟨n, n4, n1, n2⟩ := h.d
  have hm : mF M 400 21 = nI n := by rw [eR_mF.2 21 (by decide) (by decide) (by decide) (by decide), n2]
  have hfin := rel_fin (h.cR (eR_mF (N := M))) (fun b hb => mF_lo (show b ≠ 400 by omega))
  by_cases hk : ∃ j, j < n ∧ k = nI j
  · obtain ⟨j, hj, rfl⟩ := hk
    obtain ⟨r1, r2, r3⟩ := h.row n1 n4 j hj
    by_cases h0 : w = 0
    · subst h0
      exact ⟨M 7 j, M, mF M, c_Ga_stepAt0 l G L M hA.1.1 n n1 n4 j hj, by rw [r1]; exact c_Mo_stepAt0 l G L M hA.2.1 n n2 n4 j hj, hfin⟩
    · by_cases h1 : w = 1
      · subst h1
        exact ⟨M 8 j, M, mF M, c_Ga_stepAt1 l G L M hA.1.1 n n1 n4 j hj, by rw [r2]; exact c_Mo_stepAt1 l G L M hA.2.1 n n2 n4 j hj, hfin⟩
      · by_cases h2 : w = 2
        · subst h2
          exact ⟨M 9 j, M, mF M, c_Ga_stepAt2 l G L M hA.1.1 n n1 n4 j hj, by rw [r3]; exact c_Mo_stepAt2 l G L M hA.2.1 n n2 n4 j hj, hfin⟩
        · have hw : w.toInt < 0 ∨ 2 < w.toInt := by
            have m0 : ¬ w.toInt = 0 := fun q => h0 (i32_eqI (by decide) q)
            have m1 : ¬ w.toInt = 1 := fun q => h1 (i32_eqI (by decide) q)
            have m2 : ¬ w.toInt = 2 := fun q => h2 (i32_eqI (by decide) q)
            omega
          refine ⟨-1, M, mF M, c_Ga_stepAt_out l G L M hA.1.1 _ w hw, c_Mo_stepAt_no l G L M hA.2.1 _ w (fun q => ?_), hfin⟩
          have q1 := q.2.1
          have q2 := q.2.2
          rw [Int32.lt_iff_toInt_lt] at q1 q2
          have e0 : (0 : Int32).toInt = 0 := by decide
          have e2 : (2 : Int32).toInt = 2 := by decide
          omega
  · refine ⟨-1, M, mF M, c_Ga_stepAt_no l G L M hA.1.1 k w (fun q => hk ?_), c_Mo_stepAt_no l G L M hA.2.1 k w (fun q => hk ?_), hfin⟩
    · have q2 := q.2
      rw [n1] at q2
      exact nI_rng0 (by omega) q.1 (Int32.not_le.mp q2)
    · have q1 := q.1
      rw [hm] at q1
      exact sf_rng (by omega) q1
theorem not_goal {N : gMe} {p r o : Int32} (h : ¬ pNamed p r o) : ¬ pGoal N p r o := fun q => h (named_in.mpr ⟨q.1, q.2.1, q.2.2.1⟩)
theorem z_prove (hA : gLay L c) (h : gRl M M c K) (p r o : Int32) : pr1 l G L M c K y_Ga_prove b_Ga_prove 5 (some FieldType.int) 45 [.int p, .int r, .int o] y_Mo_prove b_Mo_prove 6 (some FieldType.int) 6 [.int p, .int r, .int o] := by
  have hfin := rel_fin (h.cR (eR_mF (N := M))) (fun b hb => mF_lo (show b ≠ 400 by omega))
  have q := h.2.2.2.2.1.1
  by_cases hn : pNamed p r o
  · obtain ⟨p', r', o', hp, hr, ho, rfl, rfl, rfl⟩ := named_n hn
    by_cases hop : pOpen M (nI r') o'
    · obtain ⟨a, ha, s1, s2⟩ := sayer_n h hr ho hop
      have hg : mayN a p' r' < 756 := mayN_lt ha hp hr
      have e1 : ∀ b, 400 ≤ b → prM K o' c (mayN a p' r') M b = M b := fun b hb => by
        unfold prM
        split
        · exact wp_ps b (by omega)
        · unfold pfBec
          rw [gst_ne _ _ _ _ (by omega), va_up_ne _ _ (by omega), va_up_ne _ _ (by omega), va_up_ne _ _ (by omega)]
          exact wp_ps b (by omega)
      have h1 := rel_mid (M1 := prM K o' c (mayN a p' r') M) h (fun b hb _ => e1 b hb)
      have hF := h1.cR (eR_mF (N := prM K o' c (mayN a p' r') M))
      obtain ⟨v1, v2, v3⟩ := o_prove hF ha hp hr ho
      have hE := pv_end (K := K) (o := o') (c := c) (g := mayN a p' r') hF.kOK hF.vl hg
      have hE0 := pv_end (K := K) (o := o') (c := c) (g := mayN a p' r') h.kOK h.vl hg
      obtain ⟨-, -, g3, g4, -⟩ := hE
      rw [piF_m ha hp hr] at g4
      refine ⟨(wpR K o' c (mayN a p' r') M).1, prM K o' c (mayN a p' r') M, (prI K o' c (mayM a p' r') (mF (prM K o' c (mayN a p' r') M))).2, ?_, ?_, rel_fin v2 (fun b hb => by rw [v3 b hb]; exact mF_lo (by omega))⟩
      · exact c_Ga_prove l G L M hA.1.1 c hA.1.2.1.h q.2.1 (by omega) K h.2.2.2.2.1.2.1 p' r' o' hp hr ho a s1 ha _ hE0.2.1 (fun hne => ⟨hg, hne⟩) hop
      · rw [v1]
        exact c_Mo_prove l G L _ hA.2.1 c (by rw [e1 400 (by decide)]; exact q.2.2) (by omega) K hF.2.2.2.2.1.2.2.1 p' r' o' a hp hr ho ha ((goal_iff hF hp hr ho).mpr hop) (by rw [e1 402 (by decide)]; exact s2) _ _ g3 (fun hne => ⟨mayM_lt ha hp hr, hne⟩) g4
    · refine ⟨-1, M, mF M, c_Ga_prove_shut l G L M hA.1.1 p' r' o' hp hr ho hop, c_Mo_prove_no l G L M hA.2.1 _ _ _ (fun g => hop ((goal_iff (h.cR eR_mF) hp hr ho).mp g)), hfin⟩
  · exact ⟨-1, M, mF M, c_Ga_prove_no l G L M hA.1.1 p r o hn, c_Mo_prove_no l G L M hA.2.1 p r o (not_goal hn), hfin⟩
theorem z_check (hA : gLay L c) (h : gRl M M c K) (p r o : Int32) : pr1 l G L M c K y_Ga_check b_Ga_check 4 (some FieldType.boolean) 45 [.int p, .int r, .int o] y_Mo_check b_Mo_check 4 (some FieldType.boolean) 5 [.int p, .int r, .int o] := by
  have q := h.2.2.2.2.1.1
  obtain ⟨n, n4, n1, n2⟩ := h.d
  by_cases hn : pNamed p r o
  · obtain ⟨p', r', o', hp, hr, ho, rfl, rfl, rfl⟩ := named_n hn
    by_cases hop : pOpen M (nI r') o'
    · obtain ⟨a, ha, s1, s2⟩ := sayer_n h hr ho hop
      have e1 : ∀ b, 400 ≤ b → (apR c n M (nI a) (nI p') (nI r') (nI o')).2 b = M b := fun b hb => apR_fr n4 b (by omega)
      have h1 := rel_mid (M1 := (apR c n M (nI a) (nI p') (nI r') (nI o')).2) h (fun b hb _ => e1 b hb)
      have hF := h1.cR (eR_mF (N := (apR c n M (nI a) (nI p') (nI r') (nI o')).2))
      obtain ⟨v1, v2⟩ := o_check hF n1 n4 ha hp hr ho
      have eK : ckI c n (mF (apR c n M (nI a) (nI p') (nI r') (nI o')).2) (nI p') (nI r') (nI o') = pwR c n (mF (apR c n M (nI a) (nI p') (nI r') (nI o')).2) (nI a) (nI p') (nI r') (nI o') := by
        unfold ckI
        rw [if_pos ((goal_iff hF hp hr ho).mpr hop)]
        unfold syI
        rw [nI_clamp (by omega), mF_lo (by decide), e1 402 (by decide), s2]
      refine ⟨(apR c n M (nI a) (nI p') (nI r') (nI o')).1, (apR c n M (nI a) (nI p') (nI r') (nI o')).2, (pwR c n (mF (apR c n M (nI a) (nI p') (nI r') (nI o')).2) (nI a) (nI p') (nI r') (nI o')).2, c_Ga_check l G L M hA.1.1 c hA.1.2.1.h q.2.1 (by omega) n n1 n4 p' r' o' hp hr ho a s1 hop, ?_, rel_fin v2 (fun b hb => by rw [pwR_fr b (by omega)]; exact mF_lo (by omega))⟩
      rw [v1, ← eK]
      exact c_Mo_check l G L _ hA.2.1 c (by rw [e1 400 (by decide)]; exact q.2.2) (by omega) n (by rw [e1 400 (by decide)]; exact n2) n4 _ _ _
    · have e : ckI c n (mF M) (nI p') (nI r') (nI o') = (0, mF M) := by unfold ckI; rw [if_neg (fun g => hop ((goal_iff (h.cR eR_mF) hp hr ho).mp g))]
      have hc := c_Mo_check l G L M hA.2.1 c q.2.2 (by omega) n n2 n4 (nI p') (nI r') (nI o')
      rw [e] at hc
      exact ⟨0, M, mF M, c_Ga_check_shut l G L M hA.1.1 p' r' o' hp hr ho hop, hc, rel_fin (h.cR eR_mF) (fun b hb => mF_lo (by omega))⟩
  · have e : ckI c n (mF M) p r o = (0, mF M) := by unfold ckI; rw [if_neg (not_goal hn)]
    have hc := c_Mo_check l G L M hA.2.1 c q.2.2 (by omega) n n2 n4 p r o
    rw [e] at hc
    exact ⟨0, M, mF M, c_Ga_check_no l G L M hA.1.1 p r o hn, hc, rel_fin (h.cR eR_mF) (fun b hb => mF_lo (by omega))⟩
end gPairs

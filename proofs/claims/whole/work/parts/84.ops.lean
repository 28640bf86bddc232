/-! a record; goals; proving and checking, on both sides -/
section gOps2
variable {M N : gMe} {c : Nat} {K : Nat → Nat → Nat}
theorem tn1 {t : Nat} (ht : t ≤ 50) : ¬ nI t = -1 := fun e => by
  have := nI_pos (n := t) (by omega)
  rw [e] at this
  exact this (by decide)
theorem o_rec (h : gRl M N c K) : (fzB M = 0 ∧ ¬ pOut N ∧ gRl (fzM M) (rcM N) c K) ∨ (¬ fzB M = 0 ∧ pOut N ∧ gRl (gst (fzM M) 6 3 0) (rcM N) c K) := by
  rcases h.2.1 with ⟨h1, h2⟩ | ⟨t, ht, h1, h2, h3⟩
  · left
    have hp : ¬ pOut N := fun q => q.1 h2
    refine ⟨by unfold fzB; rw [if_pos h1], hp, ?_⟩
    unfold fzM rcM
    rw [if_pos h1, if_neg hp, h2, if_pos rfl]
    refine h.fu (fun b _ => rfl) ⟨fun b hb => gst_ne _ _ _ _ hb, fun k _ _ b => by rw [gst_same, upd_n _ _ b]⟩ (Or.inl ⟨h1, by rw [gst_same, upd_n _ _ (by decide)]; exact h2⟩)
  · have hn1 : ¬ M 23 0 = -1 := by rw [h1]; exact tn1 ht
    by_cases h0 : t = 0
    · right
      subst h0
      have hp : pOut N := ⟨by rw [h2]; decide, by rw [h3]; rfl⟩
      refine ⟨by unfold fzB; rw [if_neg hn1, h1, bi_t (by decide)]; decide, hp, ?_⟩
      unfold fzM rcM
      rw [if_neg hn1, if_pos hp]
      have hA : gRl (gst M 23 0 (M 23 0 - 1)) (gst N 400 3 0) c K := h.fu (fun b hb => gst_ne _ _ _ _ hb) ⟨fun b hb => gst_ne _ _ _ _ hb, fun k _ a _ => by rw [gst_same, upd_n _ _ a]⟩ (Or.inl ⟨by rw [gst_same, upd_s, h1]; decide, by rw [gst_same, upd_s]⟩)
      refine hA.dr (fun b hb => gst_ne _ _ _ _ (by omega)) ⟨fun b x y => gst_ne _ _ _ _ (by omega), fun k _ e _ _ _ => by rw [gst_same, upd_n _ _ e]⟩ ⟨0, by omega, ?_, ?_, fun i hi => by omega⟩
      · rw [gst_same, upd_s]; rfl
      · rw [gst_same, upd_s]; rfl
    · left
      have hp : ¬ pOut N := fun q => by
        have := q.2
        rw [h3] at this
        exact nI_nz (by omega) (by omega) this
      have hd : nI t - 1 = nI (t - 1) := nI_dm (by omega)
      refine ⟨by unfold fzB; rw [if_neg hn1, h1, hd, bi_f (tn1 (by omega))], hp, ?_⟩
      unfold fzM rcM
      rw [if_neg hn1, if_neg hp, h2, if_neg (by decide)]
      refine h.fu (fun b hb => gst_ne _ _ _ _ hb) ⟨fun b hb => gst_ne _ _ _ _ hb, fun k _ _ b => by rw [gst_same, upd_n _ _ b]⟩ (Or.inr ⟨t - 1, by omega, ?_, ?_, ?_⟩)
      · rw [gst_same, upd_s, h1, hd]
      · rw [gst_same, upd_n _ _ (by decide)]; exact h2
      · rw [gst_same, upd_s, h3, hd]
/-! goals -/
theorem right_in {r : Int32} : (¬ r < 0 ∧ ¬ 4 ≤ r) ↔ pIn r 0 3 := and_congr Iff.rfl (not_congr (by
  rw [Int32.le_iff_toInt_le, Int32.lt_iff_toInt_lt]
  have e5 : (3 : Int32).toInt = 3 := by decide
  have e6 : (4 : Int32).toInt = 4 := by decide
  omega))
theorem named_in {p r o : Int32} : pNamed p r o ↔ pIn p 0 5 ∧ pIn r 0 3 ∧ pIn o 0 5 := by
  unfold pNamed
  rw [prin_in, prin_in, ← and_assoc (a := ¬ r < 0), right_in]
theorem in_n {x : Int32} {k : Nat} (hk : k < 100) (h : pIn x 0 (nI k)) : ∃ n, n ≤ k ∧ x = nI n := by
  obtain ⟨n, hn, rfl⟩ := nI_of h.1
  refine ⟨n, ?_, rfl⟩
  rcases Nat.lt_or_ge k n with q | q
  · exact absurd ((nI_ltI (by omega) hn).mpr q) h.2
  · exact q
theorem named_n {p r o : Int32} (h : pNamed p r o) : ∃ p' r' o', p' < 6 ∧ r' < 4 ∧ o' < 6 ∧ p = nI p' ∧ r = nI r' ∧ o = nI o' := by
  obtain ⟨h1, h2, h3⟩ := named_in.mp h
  obtain ⟨a, a1, a2⟩ := in_n (k := 5) (by decide) h1
  obtain ⟨b, b1, b2⟩ := in_n (k := 3) (by decide) h2
  obtain ⟨d, d1, d2⟩ := in_n (k := 5) (by decide) h3
  exact ⟨a, b, d, by omega, by omega, by omega, a2, b2, d2⟩
theorem nI_3 {r : Nat} (hr : r < 4) : nI r = 3 ↔ r = 3 := nI_eqI (b := 3) (by omega) (by decide)
theorem open_iff (h : gRl M N c K) {r o : Nat} (hr : r < 4) (ho : o < 6) : pOpen M (nI r) o ↔ N 401 o = (if nI r = 3 then 0 else 1) := by
  unfold pOpen
  rcases (h.2.2.1 o ho).1 with ⟨h1, h2⟩ | ⟨h1, a, ha, h2, -⟩
  · rw [h1, h2]
    by_cases e : nI r = 3
    · rw [if_pos e]; exact ⟨fun _ => rfl, fun _ => Or.inl ⟨e, rfl⟩⟩
    · rw [if_neg e]; exact ⟨fun q => q.elim (fun z => absurd z.1 e) (fun z => absurd rfl z.2), fun q => absurd q (by decide)⟩
  · rw [h1, h2]
    have hne : ¬ nI a = -1 := tn1 (by omega)
    by_cases e : nI r = 3
    · rw [if_pos e]; exact ⟨fun q => q.elim (fun z => absurd z.2 hne) (fun z => absurd e z.1), fun q => absurd q (by decide)⟩
    · rw [if_neg e]; exact ⟨fun _ => rfl, fun _ => Or.inr ⟨e, hne⟩⟩
theorem goal_iff (h : gRl M N c K) {p r o : Nat} (hp : p < 6) (hr : r < 4) (ho : o < 6) : pGoal N (nI p) (nI r) (nI o) ↔ pOpen M (nI r) o := by
  rw [open_iff h hr ho]
  unfold pGoal
  rw [nI_clamp (by omega)]
  exact ⟨fun q => q.2.2.2, fun q => ⟨⟨nI_pos (by omega), nI_nlt (a := 5) (by omega) (by decide)⟩, ⟨nI_pos (by omega), nI_nlt (a := 3) (by omega) (by decide)⟩, ⟨nI_pos (by omega), nI_nlt (a := 5) (by omega) (by decide)⟩, q⟩⟩
theorem sayer_n (h : gRl M N c K) {r o : Nat} (hr : r < 4) (ho : o < 6) (hop : pOpen M (nI r) o) : ∃ a, a < 6 ∧ (if nI r = 3 then 0 else M 24 o) = nI a ∧ (if nI r = 3 then 0 else N 402 o) = nI a := by
  by_cases e : nI r = 3
  · exact ⟨0, by omega, by rw [if_pos e]; rfl, by rw [if_pos e]; rfl⟩
  · rcases (h.2.2.1 o ho).1 with ⟨h1, h2⟩ | ⟨h1, a, ha, h2, h3⟩
    · exact absurd h2 (hop.resolve_left (fun z => e z.1)).2
    · exact ⟨a, ha, by rw [if_neg e]; exact h2, by rw [if_neg e]; exact h3⟩
/-! what the provers and the checkers leave alone -/
theorem wp_ps {o g : Nat} : ∀ b, (b < 10 ∨ 20 ≤ b) → (wpR K o c g M).2 b = M b := by
  intro b hb
  have hF : fdM K o c g M b = M b := gPs_fdM b hb
  have hW : (wsR 40 (wp3 (fdM K o c g M)) g).2 b = M b := by
    rw [(wsR_ws 40 (wp3 (fdM K o c g M)) g wp3_3).1 b (by omega) (by omega), wp3_ws b (by omega) (by omega), hF]
  unfold wpR
  split
  · exact hF
  · split
    · exact hW
    · exact hW
theorem foR_fr {u x z : Int32} {k b : Nat} (hk : k < 40) (h : b < 100 ∨ 140 ≤ b) : (foR c M u x z k).2 b = M b := foR_ne (by omega)
theorem acR_fr : ∀ (d k : Nat) (M : gMe), k + d ≤ 40 → ∀ b, (b < 100 ∨ 140 ≤ b) → (acR c d k M).2 b = M b
  | 0, _, _, _, _, _ => rfl
  | d + 1, k, M, hk, b, hb => by
    rw [acR]
    split
    · exact foR_fr (by omega) hb
    · rw [acR_fr d (k + 1) _ (by omega) b hb]; exact foR_fr (by omega) hb
theorem apR_fr {n : Nat} (hn : n ≤ 40) {a p r o : Int32} : ∀ b, (b < 100 ∨ 140 ≤ b) → (apR c n M a p r o).2 b = M b := fun b hb => by
  unfold apR
  split
  · exact acR_fr n 0 M (by omega) b hb
  · exact acR_fr n 0 M (by omega) b hb
theorem pwR_fr {n : Nat} {a p r o : Int32} : ∀ b, b ≠ 417 → (pwR c n N a p r o).2 b = N b := fun b hb => by
  unfold pwR
  split
  · rfl
  · exact pwL_k7 n 0 N (fun _ _ => rfl) b hb
theorem pfT_eR {o g : Nat} (hE : pvE K o c g M N) (hg : g < 756) : eR N (pfT K o c (piF g) N) ∧ ∀ b, b < 400 → pfT K o c (piF g) N b = N b := by
  obtain ⟨-, -, h3, h4, -⟩ := hE
  obtain ⟨w1, -, w3⟩ := pfW_kn (K := K) (o := o) (c := c) (M := N)
  unfold pfT
  by_cases hz : pfW K o c N 421 (piF g) = 0
  · rw [if_pos hz]
    exact ⟨eR_pm w3, fun b hb => w3.1 b (by omega) (by omega)⟩
  · rw [if_neg hz]
    obtain ⟨q1, -⟩ := dfM_ok (S := fun j => j < 756 ∧ ¬ pfW K o c N 421 j = 0) (rk := fun j => (pfW K o c N 421 j).toNatClampNeg) 759 0 (gst (pfW K o c N) 426 0 (nI (piF g))) (piF g) h4 ⟨piF_lt hg, hz⟩ (h3.mv gDk.sk) pfW_md.sk (by rw [gst_ne _ _ _ _ (by decide), w1 _ (piF_lt hg)]; decide)
    refine ⟨⟨fun b x y => ?_, fun k _ a b d => ?_⟩, fun b hb => ?_⟩
    · rw [q1.1 b (by omega) (by omega) (by omega) (by omega), gst_ne _ _ _ _ (by omega)]; exact w3.1 b (by omega) (by omega)
    · rw [q1.2.1 k a, gst_ne _ _ _ _ (by decide)]; exact w3.2 k a b d
    · rw [q1.1 b (by omega) (by omega) (by omega) (by omega), gst_ne _ _ _ _ (by omega)]; exact w3.1 b (by omega) (by omega)
theorem prX_at : ∀ (d k : Nat) (N : gMe), (∀ b, b ≠ 414 → b ≠ 415 → b ≠ 416 → itN prX d k N b = N b) ∧ ∀ i, (itN prX d k N 414 i = if k ≤ i ∧ i < k + d then N 418 i else N 414 i) ∧ (itN prX d k N 415 i = if k ≤ i ∧ i < k + d then N 419 i else N 415 i) ∧ (itN prX d k N 416 i = if k ≤ i ∧ i < k + d then N 420 i else N 416 i)
  | 0, k, N => ⟨fun _ _ _ _ => rfl, fun i => by rw [if_neg (by omega), if_neg (by omega), if_neg (by omega)]; exact ⟨rfl, rfl, rfl⟩⟩
  | d + 1, k, N => by
    obtain ⟨h1, h2⟩ := prX_at d (k + 1) (prX k N)
    have e : itN prX (d + 1) k N = itN prX d (k + 1) (prX k N) := by rw [itN]
    have a1 : ∀ b, b ≠ 414 → b ≠ 415 → b ≠ 416 → prX k N b = N b := fun b x y z => by unfold prX; rw [gst_ne _ _ _ _ z, gst_ne _ _ _ _ y, gst_ne _ _ _ _ x]
    have a2 : prX k N 414 = upd (N 414) k (N 418 k) ∧ prX k N 415 = upd (N 415) k (N 419 k) ∧ prX k N 416 = upd (N 416) k (N 420 k) := by
      unfold prX
      refine ⟨?_, ?_, ?_⟩
      · rw [gst_ne _ _ _ _ (by decide), gst_ne _ _ _ _ (by decide), gst_same]
      · rw [gst_ne _ _ _ _ (by decide), gst_same, gst_ne _ _ _ _ (by decide)]
      · rw [gst_same, gst_ne _ _ _ _ (by decide), gst_ne _ _ _ _ (by decide)]
    rw [e]
    refine ⟨fun b x y z => (h1 b x y z).trans (a1 b x y z), fun i => ?_⟩
    obtain ⟨g1, g2, g3⟩ := h2 i
    rw [g1, g2, g3, a1 418 (by decide) (by decide) (by decide), a1 419 (by decide) (by decide) (by decide), a1 420 (by decide) (by decide) (by decide), a2.1, a2.2.1, a2.2.2]
    by_cases e1 : k + 1 ≤ i ∧ i < k + 1 + d
    · rw [if_pos e1, if_pos e1, if_pos e1, if_pos (by omega), if_pos (by omega), if_pos (by omega)]; exact ⟨rfl, rfl, rfl⟩
    · rw [if_neg e1, if_neg e1, if_neg e1]
      by_cases e2 : i = k
      · subst e2; rw [upd_s, upd_s, upd_s, if_pos (by omega), if_pos (by omega), if_pos (by omega)]; exact ⟨rfl, rfl, rfl⟩
      · rw [upd_n _ _ e2, upd_n _ _ e2, upd_n _ _ e2, if_neg (by omega), if_neg (by omega), if_neg (by omega)]; exact ⟨rfl, rfl, rfl⟩
/-! 9: a proof is asked for -/
theorem o_prove (h : gRl M N c K) {a p r o : Nat} (ha : a < 6) (hp : p < 6) (hr : r < 4) (ho : o < 6) : (wpR K o c (mayN a p r) M).1 = (prI K o c (mayM a p r) N).1 ∧ gRl (prM K o c (mayN a p r) M) (prI K o c (mayM a p r) N).2 c K ∧ ∀ b, b < 400 → (prI K o c (mayM a p r) N).2 b = N b := by
  have hg : mayN a p r < 756 := mayN_lt ha hp hr
  have hE := pv_end (K := K) (o := o) (c := c) (g := mayN a p r) (M := M) (N := N) h.kOK h.vl hg
  have hW := pv_wr hE hg
  obtain ⟨q1, q2⟩ := pfT_eR hE hg
  rw [← piF_m ha hp hr]
  generalize mayN a p r = g at *
  have hps : ∀ b, (b < 10 ∨ 20 ≤ b) → (wpR K o c g M).2 b = M b := wp_ps
  have hC : eC M (wpR K o c g M).2 := fun b hb => hps b (by omega)
  unfold pvW at hW
  unfold prM prI
  generalize pfT K o c (piF g) N = T9 at *
  generalize pfN K o c (piF g) N = N9 at *
  generalize wpR K o c g M = W9 at *
  rcases hW with ⟨h1, h2⟩ | ⟨h1, n, h2, h3, h4⟩ | ⟨n, n1, n2, h1, h3, h2, h4⟩
  · rw [h1, h2, if_pos rfl, if_pos (by decide)]
    exact ⟨rfl, (h.cC hC).cR q1, q2⟩
  · rw [h1, h2, if_neg (nI_nz (by omega) (by omega)), if_pos (show ¬ nI n ≤ 40 from fun q => by have := (nI_leI (b := 40) (by omega) (by decide)).mp q; omega), if_pos (by decide)]
    exact ⟨rfl, (h.cC hC).cR q1, q2⟩
  · have hcl : (nI n).toNatClampNeg = n := nI_clamp (by omega)
    rw [h1, h2, if_neg (nI_nz (by omega) (by omega)), if_neg (show ¬ ¬ nI n ≤ 40 from fun q => q ((nI_leI (b := 40) (by omega) (by decide)).mpr n2)), if_neg (nI_nle (by omega) (by omega)), hcl]
    obtain ⟨x1, x2⟩ := prX_at n 0 (gst (T9) 400 21 (nI n))
    have hB : (∀ b, b ≠ 6 → b ≠ 7 → b ≠ 8 → b ≠ 9 → pfBec W9.2 n b = W9.2 b) ∧ pfBec W9.2 n 6 3 = nI n ∧ pfBec W9.2 n 7 = va_cpy (W9.2 12) (W9.2 7) 0 0 n ∧ pfBec W9.2 n 8 = va_cpy (W9.2 13) (W9.2 8) 0 0 n ∧ pfBec W9.2 n 9 = va_cpy (W9.2 14) (W9.2 9) 0 0 n := by
      unfold pfBec
      refine ⟨fun b e6 e7 e8 e9 => ?_, ?_, ?_, ?_, ?_⟩
      · simp only [gst_ne _ _ _ _ e6, va_up_ne _ _ e9, va_up_ne _ _ e8, va_up_ne _ _ e7]
      · simp only [gst_same, upd_s]
        rw [va_up_ne _ _ (by decide), va_up_ne _ _ (by decide), va_up_ne _ _ (by decide)]; exact h3
      · simp [gst, va_up]
      · simp [gst, va_up]
      · simp [gst, va_up]
    refine ⟨rfl, ?_, fun b hb => ?_⟩
    · refine (h.cR q1).dr (fun b hb => ?_) ⟨fun b x y => ?_, fun k _ e _ _ _ => ?_⟩ ⟨n, n2, hB.2.1, ?_, fun i hi => ?_⟩
      · rw [hB.1 b (by omega) (by omega) (by omega) (by omega)]; exact hps b (by omega)
      · show itN prX n 0 (gst (T9) 400 21 (nI n)) b = _
        rw [x1 b (by omega) (by omega) (by omega), gst_ne _ _ _ _ (by omega)]
      · show itN prX n 0 (gst (T9) 400 21 (nI n)) 400 k = _
        rw [x1 400 (by decide) (by decide) (by decide), gst_same, upd_n _ _ e]
      · show itN prX n 0 (gst (T9) 400 21 (nI n)) 400 21 = _
        rw [x1 400 (by decide) (by decide) (by decide), gst_same, upd_s]
      · obtain ⟨y1, y2, y3⟩ := x2 i
        obtain ⟨z1, z2, z3⟩ := h4 i hi
        show pfBec W9.2 n 7 i = itN prX n 0 (gst (T9) 400 21 (nI n)) 414 i ∧ pfBec W9.2 n 8 i = itN prX n 0 (gst (T9) 400 21 (nI n)) 415 i ∧ pfBec W9.2 n 9 i = itN prX n 0 (gst (T9) 400 21 (nI n)) 416 i
        rw [y1, y2, y3, if_pos (by omega), if_pos (by omega), if_pos (by omega), hB.2.2.1, hB.2.2.2.1, hB.2.2.2.2, gst_ne _ _ _ _ (show 418 ≠ 400 by decide), gst_ne _ _ _ _ (show 419 ≠ 400 by decide), gst_ne _ _ _ _ (show 420 ≠ 400 by decide)]
        unfold va_cpy
        rw [if_pos (by omega), if_pos (by omega), if_pos (by omega), show 0 + (i - 0) = i by omega]
        exact ⟨z1, z2, z3⟩
    · show itN prX n 0 (gst (T9) 400 21 (nI n)) b = _
      rw [x1 b (by omega) (by omega) (by omega), gst_ne _ _ _ _ (by omega)]; exact q2 b hb
end gOps2

/-! 11: request, class beside reference -/
section gReq
variable {l : Launch} {G : gG} {L : gLy} {M : gMe} {c : Nat} {K : Nat → Nat → Nat}
theorem rc_k {B : gMe} {k : Nat} (h3 : k ≠ 3) (h4 : k ≠ 4) (h21 : k ≠ 21) : rcM B 400 k = B 400 k := by
  unfold rcM
  split
  · rw [gst_same, upd_n _ _ h21, gst_same, upd_n _ _ h3]
  · rw [gst_same, upd_n _ _ h4]
def rqX (B : gMe) (p r o : Nat) (n : Int32) : gMe := gst (gst (rcM B) 400 9 (((B 400 9 ^^^ nI p) * 31 + 8 * nI r + nI o) * 31 + n)) 400 8 (B 400 8 + 1)
theorem rq_tail {A B : gMe} (h : gRl A B c K) {p r o : Nat} (hp : p < 6) (hr : r < 4) (ho : o < 6) (hop : pOpen A (nI r) o) (v n : Int32) : (¬ fzB A = 0 ∧ pOut B ∧ gRl (gst (fzM A) 6 3 0) (gst (rcM B) 400 2 4) c K) ∨ (fzB A = 0 ∧ ¬ pOut B ∧ coR (rqM A (nI p) (nI r) (nI o) n) r o = dnR (rqX B p r o n) r o ∧ gRl (coM (rqM A (nI p) (nI r) (nI o) n) (nI p) r o v) (dnM (rqX B p r o n) (nI p) r o v) c K) := by
  rcases o_rec h with ⟨b1, b2, b3⟩ | ⟨b1, b2, b3⟩
  · right
    have hop2 : pOpen (fzM A) (nI r) o := by unfold pOpen; rw [fzM_ne (by decide)]; exact hop
    have h9 := o_done b3 hp hr ho hop2 v n
    rw [rc_k (k := 9) (by decide) (by decide) (by decide), rc_k (k := 8) (by decide) (by decide) (by decide)] at h9
    exact ⟨b1, b2, h9⟩
  · exact Or.inl ⟨b1, b2, b3.cR eR_2⟩
theorem dn_fr {N : gMe} {p v : Int32} {r o b : Nat} (h1 : b ≠ 401) (h2 : b ≠ 402) (h3 : b ≠ 403) : dnM N p r o v b = N b := by
  unfold dnM
  repeat' split
  · rfl
  · exact gst_ne _ _ _ _ h3
  · exact gst_ne _ _ _ _ h2
  · exact gst_ne _ _ _ _ h1
  · rw [gst_ne _ _ _ _ h3, gst_ne _ _ _ _ h2, gst_ne _ _ _ _ h1]
theorem rqX_fr {B : gMe} {p r o b : Nat} {n : Int32} (h : b ≠ 400) : rqX B p r o n b = B b := by
  unfold rqX; rw [gst_ne _ _ _ _ h, gst_ne _ _ _ _ h, rc_lo h]
theorem rqX_2 {B : gMe} {p r o : Nat} {n : Int32} : rqX B p r o n 400 2 = B 400 2 := by
  unfold rqX; rw [gst_same, upd_n _ _ (by decide), gst_same, upd_n _ _ (by decide), rc_k (by decide) (by decide) (by decide)]
def zReq (l : Launch) (G : gG) (L : gLy) (M : gMe) (c : Nat) (K : Nat → Nat → Nat) (p r o v gv : Int32) : Prop := ∃ (v0 N2 : Int32) (M1 M2 : gMe) (d mc ms : Nat), d ≤ 60 ∧ mc ≤ 3 ∧ ms ≤ 43 ∧ gMetH l G y_Lw_request b_Lw_request 8 (some FieldType.int) hs_request (rmL d mc ms) [.ref 2, .int p, .int r, .int o, .int v, .int gv, .ref 450] L M gAll (gPo (some (.int v0)) L M1) mc ms ∧ gMet l G y_Mo_request b_Mo_request 8 (some FieldType.int) (rmL 6 0 0) [.ref 400, .int p, .int r, .int o, .int v, .int gv] L M1 gAll (gPo (some (.int N2)) L M2) 0 0 ∧ M2 400 2 = v0 ∧ (v0 = 0 → M2 450 0 = N2) ∧ gRl M2 M2 c K
theorem rqT_3 {gv N : Int32} {X : gMe} {p r o : Nat} {v : Int32} (h : ¬ (¬ N < 1 ∧ N ≤ 40)) : rqT gv N X p r o v = (0, gst (gst X 400 21 (if gv = 0 then X 400 21 else 0)) 400 2 3) := by unfold rqT; rw [if_pos h]
theorem rqT_4 {gv N : Int32} {X B : gMe} {p r o : Nat} {v : Int32} (h : ¬ N < 1 ∧ N ≤ 40) (hB : B = gst X 400 21 (if gv = 0 then X 400 21 else 0)) (hp : pOut B) : rqT gv N X p r o v = (0, gst (rcM B) 400 2 4) := by
  subst hB; unfold rqT; rw [if_neg (not_not_intro h), if_pos hp]
theorem rqT_0 {gv N : Int32} {X B : gMe} {p r o : Nat} {v : Int32} (h : ¬ N < 1 ∧ N ≤ 40) (hB : B = gst X 400 21 (if gv = 0 then X 400 21 else 0)) (hp : ¬ pOut B) : rqT gv N X p r o v = (dnR (rqX B p r o N) r o, dnM (rqX B p r o N) (nI p) r o v) := by
  subst hB; unfold rqT rqX; rw [if_neg (not_not_intro h), if_neg hp, gst_same, upd_n _ _ (show (9 : Nat) ≠ 21 by decide), upd_n _ _ (show (8 : Nat) ≠ 21 by decide)]
theorem rg_n {n : Nat} (h1 : 1 ≤ n) (h2 : n ≤ 40) : ¬ nI n < 1 ∧ nI n ≤ 40 := ⟨nI_nlt (b := 1) h1 (by omega), (nI_leI (b := 40) (by omega) (by decide)).mpr h2⟩
/-- behind the proof: what is left is the same for both ways -/
theorem z_rq (hA : gLay L c) (hx : gEx l G) {p r o : Nat} (hp : p < 6) (hr : r < 4) (ho : o < 6) (v gv : Int32) (h : gRl M M c K) (A : gMe) (Nc : Int32) (Nr : gMe → Int32) (Xr : gMe → gMe)
    (hAh : ∀ b, 400 ≤ b → A b = M b) (hopA : pOpen A (nI r) o)
    (hS : ∀ M1 : gMe, (∀ b, 400 ≤ b → b ≠ 450 → M1 b = M b) → gRl A (gst (Xr M1) 400 21 (if gv = 0 then Xr M1 400 21 else 0)) c K ∧ (∀ b, b < 400 → Xr M1 b = M1 b) ∧ Xr M1 450 = M1 450 ∧ Xr M1 400 2 = 0 ∧ ((∃ n, 1 ≤ n ∧ n ≤ 40 ∧ Nc = nI n ∧ Nr M1 = nI n) ∨ (¬ 0 < Nc ∧ ¬ (¬ Nr M1 < 1 ∧ Nr M1 ≤ 40))))
    (hR : ∀ M1 : gMe, (∀ b, 400 ≤ b → b ≠ 450 → M1 b = M b) → gMet l G y_Mo_request b_Mo_request 8 (some FieldType.int) (rmL 6 0 0) [.ref 400, .int (nI p), .int (nI r), .int (nI o), .int v, .int gv] L M1 gAll (gPo (some (.int (rqT gv (Nr M1) (Xr M1) p r o v).1)) L (rqT gv (Nr M1) (Xr M1) p r o v).2) 0 0)
    (c1 : ¬ 0 < Nc → gMetX l G y_Ga_request b_Ga_request 7 (some FieldType.int) (rmL 50 1 6) [.ref 2, .int (nI p), .int (nI r), .int (nI o), .int v, .int gv] L M gAll 1 L A 1 6)
    (c2 : 0 < Nc → ¬ fzB A = 0 → gMetX l G y_Ga_request b_Ga_request 7 (some FieldType.int) (rmL 50 1 6) [.ref 2, .int (nI p), .int (nI r), .int (nI o), .int v, .int gv] L M gAll 2 L (gst (fzM A) 6 3 0) 1 6)
    (c3 : 0 < Nc → fzB A = 0 → gMet l G y_Ga_request b_Ga_request 7 (some FieldType.int) (rmL 50 0 0) [.ref 2, .int (nI p), .int (nI r), .int (nI o), .int v, .int gv] L M gAll (gPo (some (.int (coR (rqM A (nI p) (nI r) (nI o) Nc) r o))) L (coM (rqM A (nI p) (nI r) (nI o) Nc) (nI p) r o v)) 0 0) : zReq l G L M c K (nI p) (nI r) (nI o) v gv := by
  by_cases hN : 0 < Nc
  · by_cases hb : fzB A = 0
    · -- granted
      have hw := w_Lw_request l G L M (lC2 hA.1.1) (nI p) (nI r) (nI o) v gv (c3 hN hb) trivial trivial hA.2.2
      obtain ⟨C9, eC9⟩ : ∃ C9, C9 = coM (rqM A (nI p) (nI r) (nI o) Nc) (nI p) r o v := ⟨_, rfl⟩
      obtain ⟨M1, eM1⟩ : ∃ M1, M1 = gst C9 450 0 (coR (rqM A (nI p) (nI r) (nI o) Nc) r o) := ⟨_, rfl⟩
      rw [← eC9, ← eM1] at hw
      have hC9 : ∀ b, 400 ≤ b → C9 b = M b := fun b hb9 => by
        rw [eC9]
        unfold coM rqM lgAdd
        have e0 : gst (gst (fzM A) 22 0 (fzM A 22 0 + 1)) 22 1 (((gst (fzM A) 22 0 (fzM A 22 0 + 1) 22 1 ^^^ nI p) * 31 + 8 * nI r + nI o) * 31 + Nc) b = M b := by
          rw [gst_ne _ _ _ _ (by omega), gst_ne _ _ _ _ (by omega), fz_hi hb9, hAh b hb9]
        repeat' split
        · exact e0
        · rw [gst_ne _ _ _ _ (by omega)]; exact e0
        · rw [gst_ne _ _ _ _ (by omega)]; exact e0
        · rw [gst_ne _ _ _ _ (by omega)]; exact e0
        · rw [gst_ne _ _ _ _ (by omega), gst_ne _ _ _ _ (by omega)]; exact e0
      have e1 : ∀ b, 400 ≤ b → b ≠ 450 → M1 b = M b := fun b h4 h5 => by rw [eM1, gst_ne _ _ _ _ h5]; exact hC9 b h4
      obtain ⟨s1, s2, s3, s4, s5⟩ := hS M1 e1
      rcases s5 with ⟨n, n1, n2, n3, n4⟩ | ⟨n3, -⟩
      · rcases rq_tail s1 hp hr ho hopA v Nc with ⟨b1, -⟩ | ⟨-, b2, b3, b4⟩
        · exact absurd hb b1
        · have eT := rqT_0 (N := Nr M1) (X := Xr M1) (p := p) (r := r) (o := o) (v := v) (by rw [n4]; exact rg_n n1 n2) rfl b2
          rw [n4, ← n3] at eT
          have hr9 := hR M1 e1
          rw [n4, ← n3, eT] at hr9
          dsimp only at hr9
          have hbb : ∀ b, b ≠ 400 → b ≠ 401 → b ≠ 402 → b ≠ 403 → dnM (rqX (gst (Xr M1) 400 21 (if gv = 0 then Xr M1 400 21 else 0)) p r o Nc) (nI p) r o v b = Xr M1 b := fun b x0 x1 x2 x3 => by rw [dn_fr x1 x2 x3, rqX_fr x0, gst_ne _ _ _ _ x0]
          refine ⟨0, _, M1, _, _, 0, 0, by decide, by decide, by decide, hw, hr9, ?_, fun _ => ?_, ?_⟩
          · rw [dn_fr (by decide) (by decide) (by decide), rqX_2, gst_same, upd_n _ _ (by decide)]; exact s4
          · have e450 : M1 450 0 = coR (rqM A (nI p) (nI r) (nI o) Nc) r o := by rw [eM1, gst_same, upd_s]
            rw [hbb 450 (by decide) (by decide) (by decide) (by decide), s3, e450]; exact b3
          · rw [← eC9] at b4
            exact b4.cC (fun b hb9 => by rw [hbb b (by omega) (by omega) (by omega) (by omega), s2 b (by omega), eM1, gst_ne _ _ _ _ (by omega)])
      · exact absurd hN n3
    · -- crashed
      have hw := w_Lw_request_2 l G L M (lC2 hA.1.1) hx (nI p) (nI r) (nI o) v gv (c2 hN hb) trivial trivial
      have e1 : ∀ b, 400 ≤ b → b ≠ 450 → gst (fzM A) 6 3 0 b = M b := fun b h4 _ => by rw [gst_ne _ _ _ _ (by omega), fz_hi h4]; exact hAh b h4
      obtain ⟨s1, s2, s3, s4, s5⟩ := hS _ e1
      rcases s5 with ⟨n, n1, n2, n3, n4⟩ | ⟨n3, -⟩
      · rcases rq_tail s1 hp hr ho hopA v Nc with ⟨-, b2, b3⟩ | ⟨b1, -⟩
        · have hr9 := hR _ e1
          rw [rqT_4 (by rw [n4]; exact rg_n n1 n2) rfl b2] at hr9
          dsimp only at hr9
          refine ⟨4, _, _, _, _, 1, 6, by decide, by decide, by decide, hw, hr9, ?_, fun g => absurd g (by decide), ?_⟩
          · rw [gst_same, upd_s]
          · exact b3.cC (fun b hb9 => by rw [gst_ne _ _ _ _ (by omega), rc_lo (by omega), gst_ne _ _ _ _ (by omega), s2 b (by omega)])
        · exact absurd b1 hb
      · exact absurd hN n3
  · have hw := w_Lw_request_1 l G L M (lC2 hA.1.1) hx (nI p) (nI r) (nI o) v gv (c1 hN) trivial trivial
    have e1 : ∀ b, 400 ≤ b → b ≠ 450 → A b = M b := fun b h4 _ => hAh b h4
    obtain ⟨s1, s2, s3, s4, s5⟩ := hS _ e1
    rcases s5 with ⟨n, n1, n2, n3, n4⟩ | ⟨-, n3⟩
    · exact absurd (by rw [n3]; exact Int32.not_le.mp (nI_nle (by omega) (by omega))) hN
    · have hr9 := hR _ e1
      rw [rqT_3 n3] at hr9
      dsimp only at hr9
      refine ⟨3, _, _, _, _, 1, 6, by decide, by decide, by decide, hw, hr9, ?_, fun g => absurd g (by decide), ?_⟩
      · rw [gst_same, upd_s]
      · exact (s1.cR eR_2).cC (fun b hb9 => by rw [gst_ne _ _ _ _ (by omega), gst_ne _ _ _ _ (by omega), s2 b (by omega)])
end gReq

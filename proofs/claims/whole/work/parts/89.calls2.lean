/-! the calls that may throw, class beside reference -/
section gCalls2
variable {l : Launch} {G : gG} {L : gLy} {M : gMe} {c : Nat} {K : Nat → Nat → Nat}
theorem rc_lo {N : gMe} {b : Nat} (h : b ≠ 400) : rcM N b = N b := by
  unfold rcM
  split
  · rw [gst_ne _ _ _ _ h, gst_ne _ _ _ _ h]
  · exact gst_ne _ _ _ _ h
theorem rcM_cg {N N' : gMe} (h : N' 400 = N 400) : rcM N' 400 = rcM N 400 := by
  unfold rcM
  by_cases e : pOut N
  · have e' : pOut N' := by unfold pOut; rw [h]; exact e
    rw [if_pos e, if_pos e', gst_same, gst_same, gst_same, gst_same, h]
  · have e' : ¬ pOut N' := by unfold pOut; rw [h]; exact e
    rw [if_neg e, if_neg e', gst_same, gst_same, h]
theorem fz_hi {M : gMe} {b : Nat} (h : 400 ≤ b) : fzM M b = M b := fzM_ne (by omega)
/-- 3 -/
def zRev (l : Launch) (G : gG) (L : gLy) (M : gMe) (c : Nat) (K : Nat → Nat → Nat) (p x : Int32) : Prop := ∃ (k : Int32) (M1 : gMe) (d mc ms : Nat), d ≤ 60 ∧ mc ≤ 3 ∧ ms ≤ 43 ∧ gMetH l G y_Lw_revoke b_Lw_revoke 5 (some FieldType.int) hs_revoke (rmL d mc ms) [.ref 2, .int p, .int x, .ref 450] L M gAll (gPo (some (.int k)) L M1) mc ms ∧ M1 400 10 = nI c ∧ (rvI c M1 p x).2 400 2 = k ∧ ((rvI c M1 p x).1 = 0 ∨ (rvI c M1 p x).1 = 1) ∧ (k = 0 → (rvI c M1 p x).2 450 0 = (rvI c M1 p x).1) ∧ gRl (rvI c M1 p x).2 (rvI c M1 p x).2 c K
theorem z_revoke (hA : gLay L c) (hx : gEx l G) (h : gRl M M c K) (p x : Int32) : zRev l G L M c K p x := by
  have q := h.2.2.2.2.1.1
  have hc : c < 25 := by omega
  by_cases hin : pIn x 1 (nI c)
  · obtain ⟨n, h1, h2, rfl, h4⟩ := pIn_n hc hin
    have hi : M (cP n) 0 = M 404 n := by rw [(h.2.2.2.2.1.2.1 n h1 h2).2.1, (h.2.2.2.2.1.2.2.1 n h1 h2).2.1]
    obtain ⟨-, -, -, h5, h01⟩ := h.2.2.2.2.1.2.2.2.1 n h1 h2
    by_cases hp : M (cP n) 0 = p
    · subst hp
      by_cases hv : M (cP n) 5 = 0
      · have hv2 : M 412 n = 0 := by rw [← h5]; exact hv
        rcases o_rec (h.cR (eR_mF (N := M))) with ⟨b1, b2, b3⟩ | ⟨b1, b2, b3⟩
        · -- done
          obtain ⟨M1, eM1⟩ : ∃ M1, M1 = gst (gst (fzM M) (cP n) 5 1) 450 0 1 := ⟨_, rfl⟩
          have hcp : 202 ≤ cP n ∧ cP n ≤ 248 := by unfold cP; omega
          have e1 : ∀ b, 400 ≤ b → b ≠ 450 → M1 b = M b := fun b hb h4 => by rw [eM1, gst_ne _ _ _ _ h4, gst_ne _ _ _ _ (by omega)]; exact fz_hi hb
          have hw := w_Lw_revoke l G L M (lC2 hA.1.1) (M (cP n) 0) (nI n) (c_Ga_revoke l G L M hA.1.1 c hA.1.2.1.h hA.1.2.1.2.2 q.2.1 (by omega) n h1 h2 hv b1) trivial trivial hA.2.2
          rw [show (if (1 : Int32) = 0 then (0 : Int32) else 1) = 1 from rfl, ← eM1] at hw
          have eF : ∀ b, 400 ≤ b → b ≠ 450 → mF M1 b = mF M b := fun b hb h4 => by
            by_cases e : b = 400
            · subst e; unfold mF; rw [gst_same, gst_same, e1 400 (by decide) (by decide)]
            · rw [mF_lo e, mF_lo e]; exact e1 b hb h4
          have e404 : M1 404 (nI n).toNatClampNeg = M (cP n) 0 := by rw [h4, e1 404 (by decide) (by decide), hi]
          have ep : ¬ pOut (mF M1) := by unfold pOut; rw [eF 400 (by decide) (by decide)]; exact b2
          have eR9 : rvI c M1 (M (cP n) 0) (nI n) = (1, gst (rcM (mF M1)) 412 n 1) := by
            unfold rvI
            rw [if_neg (not_not_intro hin), if_neg (not_not_intro e404), if_neg (not_not_intro (by rw [h4, e1 412 (by decide) (by decide)]; exact hv2)), if_neg ep, h4]
          have hrel : gRl (gst (fzM M) (cP n) 5 1) (gst (rcM (mF M)) 412 n 1) c K := o_revoked b3 h1 h2
          refine ⟨0, M1, _, 0, 0, by decide, by decide, by decide, hw, by rw [e1 400 (by decide) (by decide)]; exact q.2.2, ?_, ?_, fun _ => ?_, ?_⟩
          · rw [eR9]; show gst (rcM (mF M1)) 412 n 1 400 2 = 0; rw [gst_ne _ _ _ _ (by decide), rcM_2, mF_2]
          · rw [eR9]; exact Or.inr rfl
          · rw [eR9]; show gst (rcM (mF M1)) 412 n 1 450 0 = 1
            rw [gst_ne _ _ _ _ (by decide), rc_lo (by decide), mF_lo (by decide), eM1, gst_same, upd_s]
          · rw [eR9]
            show gRl (gst (rcM (mF M1)) 412 n 1) (gst (rcM (mF M1)) 412 n 1) c K
            refine (hrel.cR (N' := gst (rcM (mF M1)) 412 n 1) ⟨fun b x y => ?_, fun k _ _ _ _ => ?_⟩).cC (fun b hb => ?_)
            · by_cases e : b = 412
              · subst e; rw [gst_same, gst_same, rc_lo (by decide), rc_lo (by decide), eF 412 (by decide) (by decide)]
              · rw [gst_ne _ _ _ _ e, gst_ne _ _ _ _ e, rc_lo (by omega), rc_lo (by omega)]; exact eF b (by omega) (by omega)
            · rw [gst_ne _ _ _ _ (by decide), gst_ne _ _ _ _ (by decide), rcM_cg (eF 400 (by decide) (by decide))]
            · rw [gst_ne _ _ _ _ (by omega), rc_lo (by omega), mF_lo (by omega), eM1, gst_ne _ _ _ _ (by omega)]
        · -- crashed
          have e1 : ∀ b, 400 ≤ b → gst (fzM M) 6 3 0 b = M b := fun b hb => by rw [gst_ne _ _ _ _ (by omega)]; exact fz_hi hb
          have hw := w_Lw_revoke_2 l G L M (lC2 hA.1.1) hx (M (cP n) 0) (nI n) (x_Ga_revoke_3 l G L M hA.1.1 hx c hA.1.2.1.h hA.1.2.1.2.2 q.2.1 (by omega) n h1 h2 hv b1) trivial trivial
          have eF : ∀ b, 400 ≤ b → mF (gst (fzM M) 6 3 0) b = mF M b := fun b hb => by
            by_cases e : b = 400
            · subst e; unfold mF; rw [gst_same, gst_same, e1 400 (by decide)]
            · rw [mF_lo e, mF_lo e]; exact e1 b hb
          have e404 : gst (fzM M) 6 3 0 404 (nI n).toNatClampNeg = M (cP n) 0 := by rw [h4, e1 404 (by decide), hi]
          have ep : pOut (mF (gst (fzM M) 6 3 0)) := by unfold pOut; rw [eF 400 (by decide)]; exact b2
          have eR9 : rvI c (gst (fzM M) 6 3 0) (M (cP n) 0) (nI n) = (0, gst (rcM (mF (gst (fzM M) 6 3 0))) 400 2 3) := by
            unfold rvI
            rw [if_neg (not_not_intro hin), if_neg (not_not_intro e404), if_neg (not_not_intro (by rw [h4, e1 412 (by decide)]; exact hv2)), if_pos ep]
          refine ⟨3, _, _, 1, 6, by decide, by decide, by decide, hw, by rw [e1 400 (by decide)]; exact q.2.2, ?_, ?_, fun g => absurd g (by decide), ?_⟩
          · rw [eR9]; show gst (rcM (mF (gst (fzM M) 6 3 0))) 400 2 3 400 2 = 3; rw [gst_same, upd_s]
          · rw [eR9]; exact Or.inl rfl
          · rw [eR9]
            show gRl (gst (rcM (mF (gst (fzM M) 6 3 0))) 400 2 3) (gst (rcM (mF (gst (fzM M) 6 3 0))) 400 2 3) c K
            have eRr : eR (rcM (mF M)) (gst (rcM (mF (gst (fzM M) 6 3 0))) 400 2 3) := by
              refine eR.tr ⟨fun b x y => ?_, fun k _ _ _ _ => ?_⟩ eR_2
              · rw [rc_lo (by omega), rc_lo (by omega)]; exact eF b (by omega)
              · rw [rcM_cg (eF 400 (by decide))]
            exact (b3.cR eRr).cC (fun b hb => by rw [gst_ne _ _ _ _ (by omega), rc_lo (by omega), mF_lo (by omega)])
      · have hv2 : ¬ M 412 n = 0 := by rw [← h5]; exact hv
        have hw := w_Lw_revoke l G L M (lC2 hA.1.1) (M (cP n) 0) (nI n) (c_Ga_revoke_0 l G L M hA.1.1 c hA.1.2.1.h hA.1.2.1.2.2 q.2.1 (by omega) n h1 h2 hv) trivial trivial hA.2.2
        rw [show (if (0 : Int32) = 0 then (0 : Int32) else 1) = 0 from rfl] at hw
        have e1 : ∀ b, b ≠ 450 → gst M 450 0 0 b = M b := fun b hb => gst_ne _ _ _ _ hb
        have e404 : gst M 450 0 0 404 (nI n).toNatClampNeg = M (cP n) 0 := by rw [h4, e1 404 (by decide), hi]
        have eR9 : rvI c (gst M 450 0 0) (M (cP n) 0) (nI n) = (0, mF (gst M 450 0 0)) := by
          unfold rvI
          rw [if_neg (not_not_intro hin), if_neg (not_not_intro e404), if_pos (by rw [h4, e1 412 (by decide)]; exact hv2)]
        refine ⟨0, _, _, 0, 0, by decide, by decide, by decide, hw, by rw [e1 400 (by decide)]; exact q.2.2, ?_, ?_, fun _ => ?_, ?_⟩
        · rw [eR9]; exact mF_2 (M := gst M 450 0 0)
        · rw [eR9]; exact Or.inl rfl
        · rw [eR9]; show mF (gst M 450 0 0) 450 0 = 0; rw [mF_lo (by decide), gst_same, upd_s]
        · rw [eR9]
          exact rel_fin (M1 := M) ((rel_mid h (fun b _ hb => e1 b hb)).cR eR_mF) (fun b hb => (mF_lo (by omega)).trans (e1 b (by omega)))
    · have hw := w_Lw_revoke_1 l G L M (lC2 hA.1.1) hx p (nI n) (x_Ga_revoke_2 l G L M hA.1.1 hx c hA.1.2.1.h hA.1.2.1.2.2 q.2.1 (by omega) n h1 h2 p hp) trivial trivial
      have eR9 : rvI c M p (nI n) = (0, gst (mF M) 400 2 2) := by
        unfold rvI
        rw [if_neg (not_not_intro hin), if_pos (by rw [h4, ← hi]; exact hp)]
      refine ⟨2, M, _, 1, 6, by decide, by decide, by decide, hw, q.2.2, ?_, ?_, fun g => absurd g (by decide), ?_⟩
      · rw [eR9]; show gst (mF M) 400 2 2 400 2 = 2; rw [gst_same, upd_s]
      · rw [eR9]; exact Or.inl rfl
      · rw [eR9]; exact rel_fin (M1 := M) ((h.cR eR_mF).cR eR_2) (fun b hb => (gst_ne _ _ _ _ (by omega)).trans (mF_lo (by omega)))
  · have hw := w_Lw_revoke_3 l G L M (lC2 hA.1.1) hx p x (x_Ga_revoke_1 l G L M hA.1.1 hx c hA.1.2.1.h hA.1.2.1.2.2 q.2.1 (by omega) p x (Decidable.byContradiction (fun g => hin ⟨fun a => g (Or.inl a), fun a => g (Or.inr a)⟩))) trivial trivial
    have eR9 : rvI c M p x = (0, gst (mF M) 400 2 1) := by unfold rvI; rw [if_pos hin]
    refine ⟨1, M, _, 1, 6, by decide, by decide, by decide, hw, q.2.2, ?_, ?_, fun g => absurd g (by decide), ?_⟩
    · rw [eR9]; show gst (mF M) 400 2 1 400 2 = 1; rw [gst_same, upd_s]
    · rw [eR9]; exact Or.inl rfl
    · rw [eR9]; exact rel_fin (M1 := M) ((h.cR eR_mF).cR eR_2) (fun b hb => (gst_ne _ _ _ _ (by omega)).trans (mF_lo (by omega)))
end gCalls2

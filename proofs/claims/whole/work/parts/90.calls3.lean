/-! submit and request, class beside reference -/
theorem gMetX.swap {l : Launch} {G : gG} {y : MethodName} {cc : ByteArray} {nL : Nat} {ret : Option FieldType} {rm : Room} {as : List Value} {L L1 : gLy} {M M1 : gMe} {Z : Nat → Prop} {k : Int64} {mc ms : Nat} {z : Nat} (hM : gMetX l G y cc nL ret rm as L M Z k L1 M1 mc ms) (hno : gN1 L) (has : ∀ v ∈ as, v ≠ .ref 1) (hn1 : gN1 L1) : gMetX l (gG1 G z) y cc nL ret rm as L M Z k L1 M1 mc ms := by
  intro r p e ha hc hk s m args below h1 h2 h3 h4
  obtain ⟨hargs, hW, hR⟩ := h3
  have hr1 : r 1 = z := (hR.2.2.2.1 1 (by decide)).trans (show va_up G.2.2.2.2.1 1 z 1 = z from va_up_self _ _ _)
  have hmap : as.map (gV (va_up r 1 (G.2.2.2.2.1 1))) = as.map (gV r) := gst_re (fun a ha9 => va_up_ne _ _ (fun e9 => has _ ha9 (by rw [e9])))
  obtain ⟨n, o, g1, g2, g3, q, k9, ce, L', M', r', locs, w1, w2, w3, w4, w5, w6⟩ := hM (va_up r 1 (G.2.2.2.2.1 1)) p e ha hc hk s m args below h1 h2 ⟨by rw [hmap]; exact hargs, hW, hR.back hno⟩ h4
  refine ⟨n, o, g1, g2, g3, q, k9, ce, L', M', va_up r' 1 z, locs, w1, w2, fun a ha9 => ?_, w4, w5.swap (by rw [w2.2.1]; exact hn1), w6⟩
  by_cases h9 : a = 1
  · subst h9; rw [va_up_self, hr1]
  · rw [va_up_ne _ _ h9, w3 a ha9, va_up_ne _ _ h9]
section gCalls3
variable {l : Launch} {G0 : gG} {z : Nat} {L : gLy} {M : gMe} {c : Nat} {K : Nat → Nat → Nat}
def zSub (l : Launch) (G : gG) (L : gLy) (M : gMe) (c : Nat) (i k f t s : Int32) : Prop := ∃ (v : Int32) (L1 : gLy) (M1 : gMe) (Z : Nat → Prop) (d mc ms c' : Nat) (K' : Nat → Nat → Nat), d ≤ 60 ∧ mc ≤ 3 ∧ ms ≤ 43 ∧ gMetH l G y_Lw_submit b_Lw_submit 8 (some FieldType.int) hs_submit (rmL d mc ms) [.ref 2, .int i, .int k, .int f, .int t, .int s, .ref 450] L M Z (gPo (some (.int v)) L1 M1) mc ms ∧ (Z 1 ∧ Z 2 ∧ Z 400 ∧ Z 450) ∧ gLay L1 c' ∧ M1 400 10 = nI c ∧ (sbI c M1 i k f t s).2 400 2 = v ∧ (v = 0 → (sbI c M1 i k f t s).2 450 0 = (sbI c M1 i k f t s).1) ∧ gRl (sbI c M1 i k f t s).2 (sbI c M1 i k f t s).2 c' K'
theorem z_submit (hA : gLay L c) (hal : gAL G0) (hx : gEx l G0) (h : gRl M M c K) (i k f t s : Int32) : zSub l (gG1 G0 z) L M c i k f t s := by
  have q := h.2.2.2.2.1.1
  have hc : c < 25 := by omega
  have hx1 : gEx l (gG1 G0 z) := hx
  have hcp : 202 ≤ cP (c + 1) ∧ cP (c + 1) ≤ 250 := by unfold cP; omega
  have ha := hA.1.2.2.2.1 (cP (c + 1)) (Nat.le_refl _) (by omega)
  have hn := hA.1.2.2.2.1 (cP (c + 1) + 1) (by omega) (by omega)
  have hN1 := hA.1.2.2.2.2
  have hargs : ∀ v ∈ ([.ref 2, .int i, .int k, .int f, .int t, .int s] : List Value), v ≠ .ref 1 := fun v hv e => by
    subst e; simp at hv
  have hZ : (fun x => x ≠ cP (c + 1) ∧ x ≠ cP (c + 1) + 1) 1 ∧ (fun x => x ≠ cP (c + 1) ∧ x ≠ cP (c + 1) + 1) 2 ∧ (fun x => x ≠ cP (c + 1) ∧ x ≠ cP (c + 1) + 1) 400 ∧ (fun x => x ≠ cP (c + 1) ∧ x ≠ cP (c + 1) + 1) 450 := ⟨⟨by omega, by omega⟩, ⟨by omega, by omega⟩, ⟨by omega, by omega⟩, ⟨by omega, by omega⟩⟩
  have hwf : ∀ N : gMe, N 413 = M 413 → (pWf (sb1 M (cP (c + 1)) i k f t) (cP (c + 1)) (cP (c + 1) + 1) ↔ (pIn i 0 5 ∧ pFit (mF N) k)) := fun N hN => wf_fit (M' := mF N) (by omega) (fun j => by rw [mF_lo (by decide), hN]; exact h.2.2.2.2.2.1 j)
  have hso : ∀ N : gMe, N 413 = M 413 → N 400 = M 400 → soI (sb1 M (cP (c + 1)) i k f t) (cP (c + 1)) (cP (c + 1) + 1) = slR (N 400 0) i k (N 413 0) (N 413 1) (N 413 2) (N 413 3) f t := fun N hN h4 => by
    rw [so_sl (by omega), hN, h4, h.1.1]
    rw [h.2.2.2.2.2.1 0, h.2.2.2.2.2.1 1, h.2.2.2.2.2.1 2, h.2.2.2.2.2.1 3]
  by_cases hw : pWf (sb1 M (cP (c + 1)) i k f t) (cP (c + 1)) (cP (c + 1) + 1)
  · by_cases he : soI (sb1 M (cP (c + 1)) i k f t) (cP (c + 1)) (cP (c + 1) + 1) = s
    · by_cases h24 : c < 24
      · rcases o_rec (h.cR (eR_mF (N := M))) with ⟨b1, b2, b3⟩ | ⟨b1, b2, b3⟩
        · -- taken
          obtain ⟨L1, M9, Z, hZ1, hM9, hY1, hLe, hQ⟩ := s_Ga_submit l G0 L M hal c hA.1 q.2.1 h24 i k f t s hw he b1
          have hsw := gMet.swap (z := z) hM9 hN1 hargs (fun v L' M' hpo => by obtain ⟨rfl, rfl, rfl⟩ := hpo; exact ⟨(fun e => by cases e), hY1.2.2.2.2⟩)
          have h450 : L1 450 = some (.inl (2, 1, some none)) := (hLe 450 (by decide)).trans hA.2.2
          have hwr := w_Lw_submit l (gG1 G0 z) L M (lC2 hA.1.1) i k f t s hsw (hZ1 2 (by omega)) (hZ1 450 (by omega)) h450
          obtain ⟨M1, eM1⟩ : ∃ M1, M1 = gst M9 450 0 (nI (c + 1)) := ⟨_, rfl⟩
          rw [← eM1] at hwr
          have e1 : ∀ b, 400 ≤ b → b ≠ 450 → M1 b = M b := fun b hb h4 => by rw [eM1, gst_ne _ _ _ _ h4]; exact hQ.1 b (by omega) (by omega) (by omega)
          have eF : ∀ b, 400 ≤ b → b ≠ 450 → mF M1 b = mF M b := fun b hb h4 => by
            by_cases e : b = 400
            · subst e; unfold mF; rw [gst_same, gst_same, e1 400 (by decide) (by decide)]
            · rw [mF_lo e, mF_lo e]; exact e1 b hb h4
          have e413 := e1 413 (by decide) (by decide)
          have e400 := e1 400 (by decide) (by decide)
          have ep : ¬ pOut (mF M1) := by unfold pOut; rw [eF 400 (by decide) (by decide)]; exact b2
          have hfit := (hwf M1 e413).mp hw
          have eR9 : sbI c M1 i k f t s = (nI (c + 1), sbS (rcM (mF M1)) (c + 1) i k f t) := by
            unfold sbI
            rw [if_neg (not_not_intro hfit), if_neg (not_not_intro (by rw [← hso M1 e413 e400]; exact he)), if_neg (by omega), if_neg ep]
          have hb3 : gRl (fzM M) (rcM (mF M1)) c K := b3.cR ⟨fun b x y => by rw [rc_lo (by omega), rc_lo (by omega)]; exact eF b (by omega) (by omega), fun k _ _ _ _ => by rw [rcM_cg (eF 400 (by decide) (by decide))]⟩
          have hft : pFit (rcM (mF M1)) k := by
            have := hfit.2
            unfold pFit at this ⊢
            rw [rc_lo (by decide)]; exact this
          obtain ⟨K', hK'⟩ := o_sub (M' := M9) h24 hb3 hfit.1 hft hQ
          have hs450 : sbS (rcM (mF M1)) (c + 1) i k f t 450 = M1 450 := by
            unfold sbS
            rw [gst_ne _ _ _ _ (by decide), gst_ne _ _ _ _ (by decide), gst_ne _ _ _ _ (by decide), gst_ne _ _ _ _ (by decide), gst_ne _ _ _ _ (by decide), gst_ne _ _ _ _ (by decide), gst_ne _ _ _ _ (by decide), gst_ne _ _ _ _ (by decide), gst_ne _ _ _ _ (by decide), rc_lo (by decide), mF_lo (by decide)]
          refine ⟨0, L1, M1, Z, _, 3, 43, c + 1, K', by decide, by decide, by decide, hwr, ⟨hZ1 1 (by omega), hZ1 2 (by omega), hZ1 400 (by omega), hZ1 450 (by omega)⟩, ⟨hY1, ?_, h450⟩, by rw [e400]; exact q.2.2, ?_, fun _ => ?_, ?_⟩
          · refine ⟨(hLe 400 (by decide)).trans hA.2.1.1, fun a x y => (hLe a (by omega)).trans (hA.2.1.2 a x y)⟩
          · rw [eR9]
            show sbS (rcM (mF M1)) (c + 1) i k f t 400 2 = 0
            unfold sbS
            rw [gst_ne _ _ _ _ (by decide), gst_ne _ _ _ _ (by decide), gst_ne _ _ _ _ (by decide), gst_ne _ _ _ _ (by decide), gst_ne _ _ _ _ (by decide), gst_ne _ _ _ _ (by decide), gst_ne _ _ _ _ (by decide), gst_ne _ _ _ _ (by decide), gst_same, upd_n _ _ (by decide), rcM_2, mF_2]
          · rw [eR9]
            show sbS (rcM (mF M1)) (c + 1) i k f t 450 0 = nI (c + 1)
            rw [hs450, eM1, gst_same, upd_s]
          · rw [eR9]
            show gRl (sbS (rcM (mF M1)) (c + 1) i k f t) (sbS (rcM (mF M1)) (c + 1) i k f t) (c + 1) K'
            refine hK'.cC (fun b hb => ?_)
            unfold sbS
            rw [gst_ne _ _ _ _ (by omega), gst_ne _ _ _ _ (by omega), gst_ne _ _ _ _ (by omega), gst_ne _ _ _ _ (by omega), gst_ne _ _ _ _ (by omega), gst_ne _ _ _ _ (by omega), gst_ne _ _ _ _ (by omega), gst_ne _ _ _ _ (by omega), gst_ne _ _ _ _ (by omega), rc_lo (by omega), mF_lo (by omega), eM1, gst_ne _ _ _ _ (by omega)]
        · have e1 : ∀ b, 400 ≤ b → gst (fzM M) 6 3 0 b = M b := fun b hb => by rw [gst_ne _ _ _ _ (by omega)]; exact fz_hi hb
          have hwr := w_Lw_submit_2 l (gG1 G0 z) L M (lC2 hA.1.1) hx1 i k f t s (gMetX.swap (z := z) (x_Ga_submit_4 l G0 L M hA.1.1 hx hal.1 (cP (c + 1)) (by omega) ha hn i k f t s hw he c hA.1.2.1.h q.2.1 (by omega) h24 b1) hN1 hargs hN1) hZ.2.1 hZ.2.2.2
          have eF : ∀ b, 400 ≤ b → mF (gst (fzM M) 6 3 0) b = mF M b := fun b hb => by
            by_cases e : b = 400
            · subst e; unfold mF; rw [gst_same, gst_same, e1 400 (by decide)]
            · rw [mF_lo e, mF_lo e]; exact e1 b hb
          have ep : pOut (mF (gst (fzM M) 6 3 0)) := by unfold pOut; rw [eF 400 (by decide)]; exact b2
          have e413 := e1 413 (by decide)
          have e400 := e1 400 (by decide)
          have eR9 : sbI c (gst (fzM M) 6 3 0) i k f t s = (0, gst (rcM (mF (gst (fzM M) 6 3 0))) 400 2 3) := by
            unfold sbI
            rw [if_neg (not_not_intro ((hwf _ e413).mp hw)), if_neg (not_not_intro (by rw [← hso _ e413 e400]; exact he)), if_neg (by omega), if_pos ep]
          refine ⟨3, L, _, _, _, 3, 16, c, K, by decide, by decide, by decide, hwr, hZ, hA, by rw [e400]; exact q.2.2, ?_, fun g => absurd g (by decide), ?_⟩
          · rw [eR9]; show gst (rcM (mF (gst (fzM M) 6 3 0))) 400 2 3 400 2 = 3; rw [gst_same, upd_s]
          · rw [eR9]
            show gRl (gst (rcM (mF (gst (fzM M) 6 3 0))) 400 2 3) (gst (rcM (mF (gst (fzM M) 6 3 0))) 400 2 3) c K
            have eRr : eR (rcM (mF M)) (gst (rcM (mF (gst (fzM M) 6 3 0))) 400 2 3) := by
              refine eR.tr ⟨fun b x y => ?_, fun k _ _ _ _ => ?_⟩ eR_2
              · rw [rc_lo (by omega), rc_lo (by omega)]; exact eF b (by omega)
              · rw [rcM_cg (eF 400 (by decide))]
            exact (b3.cR eRr).cC (fun b hb => by rw [gst_ne _ _ _ _ (by omega), rc_lo (by omega), mF_lo (by omega)])
      · have hwr := w_Lw_submit_2 l (gG1 G0 z) L M (lC2 hA.1.1) hx1 i k f t s (gMetX.swap (z := z) (x_Ga_submit_3 l G0 L M hA.1.1 hx hal.1 (cP (c + 1)) (by omega) ha hn i k f t s hw he c hA.1.2.1.h q.2.1 (by omega) (by omega)) hN1 hargs hN1) hZ.2.1 hZ.2.2.2
        have eR9 : sbI c M i k f t s = (0, gst (mF M) 400 2 3) := by
          unfold sbI
          rw [if_neg (not_not_intro ((hwf M rfl).mp hw)), if_neg (not_not_intro (by rw [← hso M rfl rfl]; exact he)), if_pos (by omega)]
        refine ⟨3, L, M, _, _, 3, 16, c, K, by decide, by decide, by decide, hwr, hZ, hA, q.2.2, ?_, fun g => absurd g (by decide), ?_⟩
        · rw [eR9]; show gst (mF M) 400 2 3 400 2 = 3; rw [gst_same, upd_s]
        · rw [eR9]; exact rel_fin (M1 := M) ((h.cR eR_mF).cR eR_2) (fun b hb => (gst_ne _ _ _ _ (by omega)).trans (mF_lo (by omega)))
    · have hwr := w_Lw_submit_1 l (gG1 G0 z) L M (lC2 hA.1.1) hx1 i k f t s (gMetX.swap (z := z) (x_Ga_submit_2 l G0 L M hA.1.1 hx hal.1 (cP (c + 1)) (by omega) ha hn i k f t s hw he) hN1 hargs hN1) hZ.2.1 hZ.2.2.2
      have eR9 : sbI c M i k f t s = (0, gst (mF M) 400 2 2) := by
        unfold sbI
        rw [if_neg (not_not_intro ((hwf M rfl).mp hw)), if_pos (fun g => he ((hso M rfl rfl).trans g))]
      refine ⟨2, L, M, _, _, 3, 16, c, K, by decide, by decide, by decide, hwr, hZ, hA, q.2.2, ?_, fun g => absurd g (by decide), ?_⟩
      · rw [eR9]; show gst (mF M) 400 2 2 400 2 = 2; rw [gst_same, upd_s]
      · rw [eR9]; exact rel_fin (M1 := M) ((h.cR eR_mF).cR eR_2) (fun b hb => (gst_ne _ _ _ _ (by omega)).trans (mF_lo (by omega)))
  · have hwr := w_Lw_submit_0 l (gG1 G0 z) L M (lC2 hA.1.1) hx1 i k f t s (gMetX.swap (z := z) (x_Ga_submit_1 l G0 L M hA.1.1 hx hal.1 (cP (c + 1)) (by omega) ha hn i k f t s hw) hN1 hargs hN1) hZ.2.1 hZ.2.2.2
    have eR9 : sbI c M i k f t s = (0, gst (mF M) 400 2 1) := by
      unfold sbI
      rw [if_pos (fun g => hw ((hwf M rfl).mpr g))]
    refine ⟨1, L, M, _, _, 3, 16, c, K, by decide, by decide, by decide, hwr, hZ, hA, q.2.2, ?_, fun g => absurd g (by decide), ?_⟩
    · rw [eR9]; show gst (mF M) 400 2 1 400 2 = 1; rw [gst_same, upd_s]
    · rw [eR9]; exact rel_fin (M1 := M) ((h.cR eR_mF).cR eR_2) (fun b hb => (gst_ne _ _ _ _ (by omega)).trans (mF_lo (by omega)))
end gCalls3

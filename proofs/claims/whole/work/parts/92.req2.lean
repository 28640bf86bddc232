section gReq2
variable {l : Launch} {G : gG} {L : gLy} {M : gMe} {c : Nat} {K : Nat → Nat → Nat}
theorem z_request (hA : gLay L c) (hx : gEx l G) (h : gRl M M c K) (p r o v gv : Int32) (hgv : gv = 0 ∨ gv = 1) : zReq l G L M c K p r o v gv := by
  have q := h.2.2.2.2.1.1
  obtain ⟨n, n4, n1, n2⟩ := h.d
  by_cases hn : pNamed p r o
  · obtain ⟨p', r', o', hp, hr, ho, rfl, rfl, rfl⟩ := named_n hn
    obtain ⟨i1, i2, i3⟩ := named_in.mp hn
    by_cases hop : pOpen M (nI r') o'
    · obtain ⟨a, ha, s1, s2⟩ := sayer_n h hr ho hop
      rcases hgv with rfl | rfl
      · -- by the prover
        have hg : mayN a p' r' < 756 := mayN_lt ha hp hr
        have hE0 := pv_end (K := K) (o := o') (c := c) (g := mayN a p' r') h.kOK h.vl hg
        have hSg : ¬ fdM K o' c (mayN a p' r') M 15 (mayN a p' r') = 0 → (fun j => j < 756 ∧ ¬ fdM K o' c (mayN a p' r') M 15 j = 0) (mayN a p' r') := fun hne => ⟨hg, hne⟩
        have hAh : ∀ b, 400 ≤ b → (wpR K o' c (mayN a p' r') M).2 b = M b := fun b hb => wp_ps b (by omega)
        have hopA : pOpen (wpR K o' c (mayN a p' r') M).2 (nI r') o' := by unfold pOpen; rw [wp_ps 24 (by decide)]; exact hop
        refine z_rq hA hx hp hr ho v 0 h (wpR K o' c (mayN a p' r') M).2 (wpR K o' c (mayN a p' r') M).1 (fun M1 => pfN K o' c (mayM a p' r') (mF M1)) (fun M1 => pfT K o' c (mayM a p' r') (mF M1)) hAh hopA ?_ ?_ ?_ ?_ ?_
        · intro M1 e1
          have h1 := rel_mid h e1
          have hF := h1.cR (eR_mF (N := M1))
          have hE := pv_end (K := K) (o := o') (c := c) (g := mayN a p' r') hF.kOK hF.vl hg
          obtain ⟨t1, t2⟩ := pfT_eR hE hg
          have hW := pv_wr hE hg
          have t450 : pfT K o' c (piF (mayN a p' r')) (mF M1) 450 = mF M1 450 := by
            obtain ⟨-, -, g3, g4, -⟩ := hE
            obtain ⟨w1, -, w3⟩ := pfW_kn (K := K) (o := o') (c := c) (M := mF M1)
            unfold pfT
            by_cases hz : pfW K o' c (mF M1) 421 (piF (mayN a p' r')) = 0
            · rw [if_pos hz]; exact w3.1 450 (by decide) (by decide)
            · rw [if_neg hz]
              obtain ⟨q1, -⟩ := dfM_ok (S := fun j => j < 756 ∧ ¬ pfW K o' c (mF M1) 421 j = 0) (rk := fun j => (pfW K o' c (mF M1) 421 j).toNatClampNeg) 759 0 (gst (pfW K o' c (mF M1)) 426 0 (nI (piF (mayN a p' r')))) (piF (mayN a p' r')) g4 ⟨piF_lt hg, hz⟩ (g3.mv gDk.sk) pfW_md.sk (by rw [gst_ne _ _ _ _ (by decide), w1 _ (piF_lt hg)]; decide)
              rw [q1.1 450 (by decide) (by decide) (by decide) (by decide), gst_ne _ _ _ _ (by decide)]; exact w3.1 450 (by decide) (by decide)
          have t2k : pfT K o' c (piF (mayN a p' r')) (mF M1) 400 2 = 0 := by
            obtain ⟨-, -, g3, g4, -⟩ := hE
            obtain ⟨w1, -, w3⟩ := pfW_kn (K := K) (o := o') (c := c) (M := mF M1)
            unfold pfT
            by_cases hz : pfW K o' c (mF M1) 421 (piF (mayN a p' r')) = 0
            · rw [if_pos hz, w3.2 2 (by decide) (by decide) (by decide)]; exact mF_2
            · rw [if_neg hz]
              obtain ⟨q1, -⟩ := dfM_ok (S := fun j => j < 756 ∧ ¬ pfW K o' c (mF M1) 421 j = 0) (rk := fun j => (pfW K o' c (mF M1) 421 j).toNatClampNeg) 759 0 (gst (pfW K o' c (mF M1)) 426 0 (nI (piF (mayN a p' r')))) (piF (mayN a p' r')) g4 ⟨piF_lt hg, hz⟩ (g3.mv gDk.sk) pfW_md.sk (by rw [gst_ne _ _ _ _ (by decide), w1 _ (piF_lt hg)]; decide)
              rw [q1.2.1 2 (by decide), gst_ne _ _ _ _ (by decide), w3.2 2 (by decide) (by decide) (by decide)]; exact mF_2
          unfold pvW at hW
          rw [piF_m ha hp hr] at hW t1 t2 t450 t2k
          generalize pfT K o' c (mayM a p' r') (mF M1) = T9 at *
          generalize pfN K o' c (mayM a p' r') (mF M1) = N9 at *
          refine ⟨?_, fun b hb => (t2 b hb).trans (mF_lo (by omega)), t450.trans (mF_lo (by decide)), t2k, ?_⟩
          · rw [if_pos rfl]
            refine (((h.cC (fun b hb => wp_ps b (by omega))).cR (N' := mF M1) ?_).cR t1).cR ⟨fun b x y => gst_ne _ _ _ _ (by omega), fun k _ _ _ _ => ?_⟩
            · exact eR.tr ⟨fun b x y => e1 b (by omega) (by omega), fun k _ _ _ _ => by rw [e1 400 (by decide) (by decide)]⟩ eR_mF
            · rw [gst_same]
              by_cases e : k = 21
              · subst e; rw [upd_s]
              · rw [upd_n _ _ e]
          · rcases hW with ⟨w1, w2⟩ | ⟨w1, m, w2, w3, w4⟩ | ⟨m, m1, m2, w1, -, w2, -⟩
            · right
              rw [w1, w2]
              exact ⟨by decide, by decide⟩
            · right
              rw [w1, w2]
              refine ⟨by decide, fun g => ?_⟩
              have := (nI_leI (b := 40) (by omega) (by decide)).mp g.2
              omega
            · exact Or.inl ⟨m, m1, m2, w1, w2⟩
        · intro M1 e1
          have h1 := rel_mid h e1
          have hF := h1.cR (eR_mF (N := M1))
          obtain ⟨-, -, g3, g4, -⟩ := pv_end (K := K) (o := o') (c := c) (g := mayN a p' r') hF.kOK hF.vl hg
          rw [piF_m ha hp hr] at g4
          exact c_Mo_request_p l G L M1 hA.2.1 c (by rw [e1 400 (by decide) (by decide)]; exact q.2.2) (by omega) K hF.2.2.2.2.1.2.2.1 p' r' o' a hp hr ho ha ((goal_iff hF hp hr ho).mpr hop) (by rw [e1 402 (by decide) (by decide)]; exact s2) _ _ g3 (fun hne => ⟨mayM_lt ha hp hr, hne⟩) g4 v
        · intro hN
          exact x_Ga_request_p1 l G L M hA.1.1 hx c hA.1.2.1.h q.2.1 (by omega) K h.2.2.2.2.1.2.1 p' r' o' hp hr ho a s1 ha _ hE0.2.1 hSg hop v hN
        · intro hN hb
          exact x_Ga_request_p2 l G L M hA.1.1 hx c hA.1.2.1.h q.2.1 (by omega) K h.2.2.2.2.1.2.1 p' r' o' hp hr ho a s1 ha _ hE0.2.1 hSg hop v hN hb
        · intro hN hb
          exact c_Ga_request_p l G L M hA.1.1 c hA.1.2.1.h q.2.1 (by omega) K h.2.2.2.2.1.2.1 p' r' o' hp hr ho a s1 ha _ hE0.2.1 hSg hop v hN hb
      · -- by the draft
        have hAh : ∀ b, 400 ≤ b → gst (apR c n M (nI a) (nI p') (nI r') (nI o')).2 6 3 0 b = M b := fun b hb => by rw [gst_ne _ _ _ _ (by omega)]; exact apR_fr n4 b (by omega)
        have hopA : pOpen (gst (apR c n M (nI a) (nI p') (nI r') (nI o')).2 6 3 0) (nI r') o' := by unfold pOpen; rw [gst_ne _ _ _ _ (by decide), apR_fr n4 24 (by decide)]; exact hop
        refine z_rq hA hx hp hr ho v 1 h (gst (apR c n M (nI a) (nI p') (nI r') (nI o')).2 6 3 0) (uuR c n M (nI a) (nI p') (nI r') (nI o')) (fun M1 => if (pwR c n (mF M1) (nI a) (nI p') (nI r') (nI o')).1 = 0 then 0 else nI n) (fun M1 => (pwR c n (mF M1) (nI a) (nI p') (nI r') (nI o')).2) hAh hopA ?_ ?_ ?_ ?_ ?_
        · intro M1 e1
          have h1 := rel_mid h e1
          have hF := h1.cR (eR_mF (N := M1))
          obtain ⟨v1, v2⟩ := o_check hF n1 n4 ha hp hr ho
          refine ⟨?_, fun b hb => (pwR_fr b (by omega)).trans (mF_lo (by omega)), (pwR_fr 450 (by decide)).trans (mF_lo (by decide)), (pwR_dr).trans mF_2, ?_⟩
          · rw [if_neg (by decide)]
            refine v2.dr (fun b hb => gst_ne _ _ _ _ (by omega)) ⟨fun b x y => gst_ne _ _ _ _ (by omega), fun k _ e _ _ _ => by rw [gst_same, upd_n _ _ e]⟩ ⟨0, by omega, ?_, ?_, fun i hi => by omega⟩
            · rw [gst_same, upd_s]; rfl
            · rw [gst_same, upd_s]; rfl
          · unfold uuR
            rw [v1]
            by_cases e : (pwR c n (mF M1) (nI a) (nI p') (nI r') (nI o')).1 = 0
            · rw [if_pos e, if_pos e]
              exact Or.inr ⟨by decide, by decide⟩
            · rw [if_neg e, if_neg e, apR_fr n4 6 (by decide), n1]
              refine Or.inl ⟨n, ?_, n4, rfl, rfl⟩
              refine Nat.pos_of_ne_zero (fun e0 => e ?_)
              unfold pwR
              rw [if_pos e0]
        · intro M1 e1
          have h1 := rel_mid h e1
          have hF := h1.cR (eR_mF (N := M1))
          exact c_Mo_request_g l G L M1 hA.2.1 c (by rw [e1 400 (by decide) (by decide)]; exact q.2.2) (by omega) n (by rw [e1 400 (by decide) (by decide)]; exact n2) n4 p' r' o' a hp hr ho ((goal_iff hF hp hr ho).mpr hop) (by rw [e1 402 (by decide) (by decide)]; exact s2) v
        · intro hN
          exact x_Ga_request_g1 l G L M hA.1.1 hx c hA.1.2.1.h q.2.1 (by omega) n n1 n4 p' r' o' hp hr ho a s1 hop v hN
        · intro hN hb
          exact x_Ga_request_g2 l G L M hA.1.1 hx c hA.1.2.1.h q.2.1 (by omega) n n1 n4 p' r' o' hp hr ho a s1 hop v hN hb
        · intro hN hb
          exact c_Ga_request_g l G L M hA.1.1 c hA.1.2.1.h q.2.1 (by omega) n n1 n4 p' r' o' hp hr ho a s1 hop v hN hb
    · have hw := w_Lw_request_3 l G L M (lC2 hA.1.1) hx (nI p') (nI r') (nI o') v gv (x_Ga_request_2 l G L M hA.1.1 hx p' r' o' hp hr ho v gv hop) trivial trivial
      refine ⟨2, 0, M, gst (mF M) 400 2 2, _, 1, 6, by decide, by decide, by decide, hw, c_Mo_request_2 l G L M hA.2.1 _ _ _ v gv i1 i2 i3 (fun g => hop ((goal_iff (h.cR eR_mF) hp hr ho).mp g)), by rw [gst_same, upd_s], fun g => absurd g (by decide), rel_fin (M1 := M) ((h.cR eR_mF).cR eR_2) (fun b hb => (gst_ne _ _ _ _ (by omega)).trans (mF_lo (by omega)))⟩
  · have hw := w_Lw_request_0 l G L M (lC2 hA.1.1) hx p r o v gv (x_Ga_request_1 l G L M hx p r o v gv hn) trivial trivial
    exact ⟨1, 0, M, gst (mF M) 400 2 1, _, 1, 6, by decide, by decide, by decide, hw, c_Mo_request_1 l G L M hA.2.1 p r o v gv (fun g => hn (named_in.mpr g)), by rw [gst_same, upd_s], fun g => absurd g (by decide), rel_fin (M1 := M) ((h.cR eR_mF).cR eR_2) (fun b hb => (gst_ne _ _ _ _ (by omega)).trans (mF_lo (by omega)))⟩
end gReq2

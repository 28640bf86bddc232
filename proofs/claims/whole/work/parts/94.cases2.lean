/-! the law's cases that may throw -/
section gCases2
variable {l : Launch} {G : gG} {L : gLy} {M : gMe} {c : Nat} {K : Nat → Nat → Nat} {N i cells slots : Nat} {f : Nat → Int32} {o5 o6 : Option Int32}
theorem lk_submit : Cond.methodLink "ProofGateLaw" 46 y_Lw_submit ∈ TB := exTb (by decide +kernel)
theorem lk_revoke : Cond.methodLink "ProofGateLaw" 59 y_Lw_revoke ∈ TB := exTb (by decide +kernel)
theorem lk_request : Cond.methodLink "ProofGateLaw" 95 y_Lw_request ∈ TB := exTb (by decide +kernel)
set_option maxRecDepth 100000 in
set_option maxHeartbeats 4000000 in
theorem lw_3 (hx : gEx l G) (hs : gSc G N f) (hN : N ≤ 4609) (hi : i + 9 ≤ N) (hA : gLay L c) (h : gRl M M c K) (hcs : cells ≤ 5000) (hss : slots ≤ 100000) (kk : ∀ (L' : gLy) (M' : gMe) (c' : Nat) (K' : Nat → Nat → Nat) (o5' o6' : Option Int32), gLay L' c' → gRl M' M' c' K' → V l G x code 7 ret room_1 601024 7292999 (fun _ => False) lwP L' M' (cells + 3) (slots + 43) [some (.ref 1), some (.ref 2), some (.ref 400), some (.ref 450), some (.int (nI i)), (o5'.map Value.int), (o6'.map Value.int)] 958 []) : V l G x code 7 ret room_1 601024 7292999 (fun _ => False) lwP L M cells slots [some (.ref 1), some (.ref 2), some (.ref 400), some (.ref 450), some (.int (nI i)), (o5.map Value.int), (o6.map Value.int)] 414 [] := by
  refine V_al1 415 d_Lw_law_414 rfl ?_
  refine V_argc 421 i 1 hs (by omega) hN d_Lw_law_415 d_Lw_law_416 d_Lw_law_418 rfl d_Lw_law_419 d_Lw_law_420 rfl ?_
  refine V_argc 427 i 2 hs (by omega) hN d_Lw_law_421 d_Lw_law_422 d_Lw_law_424 rfl d_Lw_law_425 d_Lw_law_426 rfl ?_
  obtain ⟨v, M1, d, mc, ms, hd, hmc, hms, hm, hcm, hv2, h01, h450, hrel⟩ := z_revoke (l := l) (G := G) hA hx h (f (i + 1)) (f (i + 2))
  refine V_al3 428 d_Lw_law_427 rfl ?_
  refine V_callSH 431 (as := [.ref 2, .int (f (i + 1)), .int (f (i + 2)), .ref 450]) (st := []) hm cw_revoke (tb1 0 rfl rfl) ⟨by decide, by decide⟩ (by decide +kernel : _ = some 4) lk_revoke (exTb (by decide +kernel)) (lw_rm (by omega) (by decide)) rfl rfl (Nat.le_of_ble_eq_true rfl) d_Lw_law_428 ⟨show cells + mc ≤ 601024 by omega, show slots + ms ≤ 7292999 by omega⟩ (fun a ha => ha.elim) (gcl_lw trivial trivial trivial trivial (fun a ha => by simp at ha)) rfl ?_
  intro v9 L9 M9 hpo
  obtain ⟨rfl, e2, e3⟩ := hpo
  rw [e2, e3]
  refine V_is5 433 d_Lw_law_431 (by decide) rfl ?_
  refine V_al2 434 d_Lw_law_433 rfl ?_
  refine V_argc 440 i 1 hs (by omega) hN d_Lw_law_434 d_Lw_law_435 d_Lw_law_437 rfl d_Lw_law_438 d_Lw_law_439 rfl ?_
  refine V_argc 446 i 2 hs (by omega) hN d_Lw_law_440 d_Lw_law_441 d_Lw_law_443 rfl d_Lw_law_444 d_Lw_law_445 rfl ?_
  refine V_cV1 449 (c_Mo_revoke l G L M1 hA.2.1 c hcm (by have := h.2.2.2.2.1.1.1; omega) (f (i + 1)) (f (i + 2))) ok_Mo_revoke ml_Lw_62 im_Mo_revoke se_Mo_revoke (lM hA.2.1) kc_Mo (lw_rm (by decide) (by decide)) rfl rfl (Nat.le_of_ble_eq_true rfl) d_Lw_law_446 ⟨show cells + mc ≤ 601024 by omega, show slots + ms ≤ 7292999 by omega⟩ rfl ?_
  generalize rvI c M1 (f (i + 1)) (f (i + 2)) = Q9 at hv2 h01 h450 hrel ⊢
  refine V_is6 451 d_Lw_law_449 (by decide) rfl ?_
  refine V_al2 452 d_Lw_law_451 rfl ?_
  refine V_cV1 455 (c_Mo_thrown l G L _ hA.2.1) ok_Mo_thrown ml_Lw_50 im_Mo_thrown se_Mo_thrown (lM hA.2.1) kc_Mo (lw_rm (by decide) (by decide)) rfl rfl (Nat.le_of_ble_eq_true rfl) d_Lw_law_452 ⟨show cells + mc ≤ 601024 by omega, show slots + ms ≤ 7292999 by omega⟩ rfl ?_
  refine V_topi hv2 ?_
  refine V_il5 457 d_Lw_law_455 rfl ?_
  refine V_icmp_eq 462 460 d_Lw_law_457 (by decide) rfl (fun _ => ?_) (fun h9 => absurd rfl h9)
  refine V_il5 464 d_Lw_law_462 rfl ?_
  have fin : V l G x code 7 ret room_1 601024 7292999 (fun _ => False) lwP L Q9.2 (cells + mc) (slots + ms) [some (.ref 1), some (.ref 2), some (.ref 400), some (.ref 450), some (.int (nI i)), (some (.int v)), (some (.int Q9.1))] 486 [] := by
    refine V_goto 958 d_Lw_law_486 (by decide) ?_
    exact V_pad (by omega) (by omega) (kk L Q9.2 c K (some v) (some Q9.1) hA hrel)
  refine V_if_ne 486 467 d_Lw_law_464 (by decide) rfl (fun _ => fin) (fun h0 => ?_)
  have hv0 : v = 0 := h0
  refine V_al3 468 d_Lw_law_467 rfl ?_
  refine V_iconst 469 (v := 0) (by decide) d_Lw_law_468 rfl ?_
  refine V_laln 470 0 hA.2.2 rfl (by decide) (by decide) d_Lw_law_469 rfl ?_
  rw [h450 hv0]
  refine V_il6 472 d_Lw_law_470 rfl ?_
  rcases h01 with e0 | e1
  · rw [e0] at fin ⊢
    refine V_if_eq 479 475 d_Lw_law_472 (by decide) rfl (fun _ => ?_) (fun h9 => absurd rfl h9)
    refine V_lconst 480 (v := 0) rfl d_Lw_law_479 rfl ?_
    refine V_lcmp 481 d_Lw_law_480 rfl ?_
    refine V_topi (z := 0) (lcmp_eq _) ?_
    exact V_if_eq 486 484 d_Lw_law_481 (by decide) rfl (fun _ => fin) (fun h9 => absurd rfl h9)
  · rw [e1] at fin ⊢
    refine V_if_eq 479 475 d_Lw_law_472 (by decide) rfl (fun h9 => absurd h9 (by decide)) (fun _ => ?_)
    refine V_lconst 476 (v := 1) rfl d_Lw_law_475 rfl ?_
    refine V_goto 480 d_Lw_law_476 (by decide) ?_
    refine V_lcmp 481 d_Lw_law_480 rfl ?_
    refine V_topi (z := 0) (lcmp_eq _) ?_
    exact V_if_eq 486 484 d_Lw_law_481 (by decide) rfl (fun _ => fin) (fun h9 => absurd rfl h9)
set_option maxRecDepth 100000 in
set_option maxHeartbeats 4000000 in
theorem lw_1 (hG : ∃ (G0 : gG) (z : Nat), G = gG1 G0 z ∧ gAL G0 ∧ gEx l G0) (hs : gSc G N f) (hN : N ≤ 4609) (hi : i + 9 ≤ N) (hA : gLay L c) (h : gRl M M c K) (hcs : cells ≤ 5000) (hss : slots ≤ 100000) (kk : ∀ (L' : gLy) (M' : gMe) (c' : Nat) (K' : Nat → Nat → Nat) (o5' o6' : Option Int32), gLay L' c' → gRl M' M' c' K' → V l G x code 7 ret room_1 601024 7292999 (fun _ => False) lwP L' M' (cells + 3) (slots + 43) [some (.ref 1), some (.ref 2), some (.ref 400), some (.ref 450), some (.int (nI i)), (o5'.map Value.int), (o6'.map Value.int)] 958 []) : V l G x code 7 ret room_1 601024 7292999 (fun _ => False) lwP L M cells slots [some (.ref 1), some (.ref 2), some (.ref 400), some (.ref 450), some (.int (nI i)), (o5.map Value.int), (o6.map Value.int)] 251 [] := by
  refine V_al1 252 d_Lw_law_251 rfl ?_
  refine V_argc 258 i 1 hs (by omega) hN d_Lw_law_252 d_Lw_law_253 d_Lw_law_255 rfl d_Lw_law_256 d_Lw_law_257 rfl ?_
  refine V_argc 264 i 2 hs (by omega) hN d_Lw_law_258 d_Lw_law_259 d_Lw_law_261 rfl d_Lw_law_262 d_Lw_law_263 rfl ?_
  refine V_argc 270 i 3 hs (by omega) hN d_Lw_law_264 d_Lw_law_265 d_Lw_law_267 rfl d_Lw_law_268 d_Lw_law_269 rfl ?_
  refine V_argc 276 i 4 hs (by omega) hN d_Lw_law_270 d_Lw_law_271 d_Lw_law_273 rfl d_Lw_law_274 d_Lw_law_275 rfl ?_
  refine V_argc 282 i 5 hs (by omega) hN d_Lw_law_276 d_Lw_law_277 d_Lw_law_279 rfl d_Lw_law_280 d_Lw_law_281 rfl ?_
  have hz : zSub l G L M c (f (i + 1)) (f (i + 2)) (f (i + 3)) (f (i + 4)) (f (i + 5)) := by
    obtain ⟨G0, z, rfl, hal, hx⟩ := hG
    exact z_submit hA hal hx h (f (i + 1)) (f (i + 2)) (f (i + 3)) (f (i + 4)) (f (i + 5))
  obtain ⟨v, L1, M1, Z, d, mc, ms, c', K', hd, hmc, hms, hm, ⟨z1, z2, z3, z4⟩, hA1, hcm, hv2, h450, hrel⟩ := hz
  refine V_al3 283 d_Lw_law_282 rfl ?_
  refine V_callSH 286 (as := [.ref 2, .int (f (i + 1)), .int (f (i + 2)), .int (f (i + 3)), .int (f (i + 4)), .int (f (i + 5)), .ref 450]) (st := []) hm cw_submit (tb1 0 rfl rfl) ⟨by decide, by decide⟩ (by decide +kernel : _ = some 7) lk_submit (exTb (by decide +kernel)) (lw_rm (by omega) (by decide)) rfl rfl (Nat.le_of_ble_eq_true rfl) d_Lw_law_283 ⟨show cells + mc ≤ 601024 by omega, show slots + ms ≤ 7292999 by omega⟩ (fun a ha => ha.elim) (gcl_lw z1 z2 z3 z4 (fun a ha => by simp at ha)) rfl ?_
  intro v9 L9 M9 hpo
  obtain ⟨rfl, e2, e3⟩ := hpo
  rw [e2, e3]
  refine V_is5 288 d_Lw_law_286 (by decide) rfl ?_
  refine V_al2 289 d_Lw_law_288 rfl ?_
  refine V_argc 295 i 1 hs (by omega) hN d_Lw_law_289 d_Lw_law_290 d_Lw_law_292 rfl d_Lw_law_293 d_Lw_law_294 rfl ?_
  refine V_argc 301 i 2 hs (by omega) hN d_Lw_law_295 d_Lw_law_296 d_Lw_law_298 rfl d_Lw_law_299 d_Lw_law_300 rfl ?_
  refine V_argc 307 i 3 hs (by omega) hN d_Lw_law_301 d_Lw_law_302 d_Lw_law_304 rfl d_Lw_law_305 d_Lw_law_306 rfl ?_
  refine V_argc 313 i 4 hs (by omega) hN d_Lw_law_307 d_Lw_law_308 d_Lw_law_310 rfl d_Lw_law_311 d_Lw_law_312 rfl ?_
  refine V_argc 319 i 5 hs (by omega) hN d_Lw_law_313 d_Lw_law_314 d_Lw_law_316 rfl d_Lw_law_317 d_Lw_law_318 rfl ?_
  refine V_cV1 322 (c_Mo_submit l G L1 M1 hA1.2.1 c hcm (by have := h.2.2.2.2.1.1.1; omega) (f (i + 1)) (f (i + 2)) (f (i + 3)) (f (i + 4)) (f (i + 5))) ok_Mo_submit ml_Lw_49 im_Mo_submit se_Mo_submit (lM hA1.2.1) kc_Mo (lw_rm (by decide) (by decide)) rfl rfl (Nat.le_of_ble_eq_true rfl) d_Lw_law_319 ⟨show cells + mc ≤ 601024 by omega, show slots + ms ≤ 7292999 by omega⟩ rfl ?_
  generalize sbI c M1 (f (i + 1)) (f (i + 2)) (f (i + 3)) (f (i + 4)) (f (i + 5)) = Q9 at hv2 h450 hrel ⊢
  refine V_is6 324 d_Lw_law_322 (by decide) rfl ?_
  refine V_al2 325 d_Lw_law_324 rfl ?_
  refine V_cV1 328 (c_Mo_thrown l G L1 _ hA1.2.1) ok_Mo_thrown ml_Lw_50 im_Mo_thrown se_Mo_thrown (lM hA1.2.1) kc_Mo (lw_rm (by decide) (by decide)) rfl rfl (Nat.le_of_ble_eq_true rfl) d_Lw_law_325 ⟨show cells + mc ≤ 601024 by omega, show slots + ms ≤ 7292999 by omega⟩ rfl ?_
  refine V_topi hv2 ?_
  refine V_il5 330 d_Lw_law_328 rfl ?_
  refine V_icmp_eq 335 333 d_Lw_law_330 (by decide) rfl (fun _ => ?_) (fun h9 => absurd rfl h9)
  refine V_il5 337 d_Lw_law_335 rfl ?_
  have fin : V l G x code 7 ret room_1 601024 7292999 (fun _ => False) lwP L1 Q9.2 (cells + mc) (slots + ms) [some (.ref 1), some (.ref 2), some (.ref 400), some (.ref 450), some (.int (nI i)), (some (.int v)), (some (.int Q9.1))] 352 [] := by
    refine V_goto 958 d_Lw_law_352 (by decide) ?_
    exact V_pad (by omega) (by omega) (kk L1 Q9.2 c' K' (some v) (some Q9.1) hA1 hrel)
  refine V_if_ne 352 340 d_Lw_law_337 (by decide) rfl (fun _ => fin) (fun h0 => ?_)
  have hv0 : v = 0 := h0
  refine V_al3 341 d_Lw_law_340 rfl ?_
  refine V_iconst 342 (v := 0) (by decide) d_Lw_law_341 rfl ?_
  refine V_laln 343 0 hA1.2.2 rfl (by decide) (by decide) d_Lw_law_342 rfl ?_
  rw [h450 hv0]
  refine V_il6 345 d_Lw_law_343 rfl ?_
  refine V_i2l 346 d_Lw_law_345 rfl ?_
  refine V_lcmp 347 d_Lw_law_346 rfl ?_
  refine V_topi (z := 0) (lcmp_eq _) ?_
  exact V_if_eq 352 350 d_Lw_law_347 (by decide) rfl (fun _ => fin) (fun h9 => absurd rfl h9)
set_option maxRecDepth 100000 in
set_option maxHeartbeats 4000000 in
theorem lw_11 (hx : gEx l G) (hs : gSc G N f) (hN : N ≤ 4609) (hi : i + 9 ≤ N) (hA : gLay L c) (h : gRl M M c K) (hcs : cells ≤ 5000) (hss : slots ≤ 100000) (kk : ∀ (L' : gLy) (M' : gMe) (c' : Nat) (K' : Nat → Nat → Nat) (o5' o6' : Option Int32), gLay L' c' → gRl M' M' c' K' → V l G x code 7 ret room_1 601024 7292999 (fun _ => False) lwP L' M' (cells + 3) (slots + 43) [some (.ref 1), some (.ref 2), some (.ref 400), some (.ref 450), some (.int (nI i)), (o5'.map Value.int), (o6'.map Value.int)] 958 []) : V l G x code 7 ret room_1 601024 7292999 (fun _ => False) lwP L M cells slots [some (.ref 1), some (.ref 2), some (.ref 400), some (.ref 450), some (.int (nI i)), (o5.map Value.int), (o6.map Value.int)] 724 [] := by
  refine V_al1 725 d_Lw_law_724 rfl ?_
  refine V_argc 731 i 1 hs (by omega) hN d_Lw_law_725 d_Lw_law_726 d_Lw_law_728 rfl d_Lw_law_729 d_Lw_law_730 rfl ?_
  refine V_argc 737 i 2 hs (by omega) hN d_Lw_law_731 d_Lw_law_732 d_Lw_law_734 rfl d_Lw_law_735 d_Lw_law_736 rfl ?_
  refine V_argc 743 i 3 hs (by omega) hN d_Lw_law_737 d_Lw_law_738 d_Lw_law_740 rfl d_Lw_law_741 d_Lw_law_742 rfl ?_
  refine V_argc 749 i 4 hs (by omega) hN d_Lw_law_743 d_Lw_law_744 d_Lw_law_746 rfl d_Lw_law_747 d_Lw_law_748 rfl ?_
  refine V_argc 755 i 5 hs (by omega) hN d_Lw_law_749 d_Lw_law_750 d_Lw_law_752 rfl d_Lw_law_753 d_Lw_law_754 rfl ?_
  have mainL : ∀ gv : Int32, (gv = 0 ∨ gv = 1) → (gv = 0 ↔ f (i + 5) = 0) → V l G x code 7 ret room_1 601024 7292999 (fun _ => False) lwP L M cells slots [some (.ref 1), some (.ref 2), some (.ref 400), some (.ref 450), some (.int (nI i)), (o5.map Value.int), (o6.map Value.int)] 763 [.int gv, .int (f (i + 4)), .int (f (i + 3)), .int (f (i + 2)), .int (f (i + 1)), .ref 2] := by
    intro gv hgv hg5
    obtain ⟨v, N2, M1, M2, d, mc, ms, hd, hmc, hms, hm, h2, hv2, h450, hrel⟩ := z_request (l := l) (G := G) hA hx h (f (i + 1)) (f (i + 2)) (f (i + 3)) (f (i + 4)) gv hgv
    refine V_al3 764 d_Lw_law_763 rfl ?_
    refine V_callSH 767 (as := [.ref 2, .int (f (i + 1)), .int (f (i + 2)), .int (f (i + 3)), .int (f (i + 4)), .int gv, .ref 450]) (st := []) hm cw_request (tb1 0 rfl rfl) ⟨by decide, by decide⟩ (by decide +kernel : _ = some 7) lk_request (exTb (by decide +kernel)) (lw_rm (by omega) (by decide)) rfl rfl (Nat.le_of_ble_eq_true rfl) d_Lw_law_764 ⟨show cells + mc ≤ 601024 by omega, show slots + ms ≤ 7292999 by omega⟩ (fun a ha => ha.elim) (gcl_lw trivial trivial trivial trivial (fun a ha => by simp at ha)) rfl ?_
    intro v9 L9 M9 hpo
    obtain ⟨rfl, e2, e3⟩ := hpo
    rw [e2, e3]
    refine V_is5 769 d_Lw_law_767 (by decide) rfl ?_
    refine V_al2 770 d_Lw_law_769 rfl ?_
    refine V_argc 776 i 1 hs (by omega) hN d_Lw_law_770 d_Lw_law_771 d_Lw_law_773 rfl d_Lw_law_774 d_Lw_law_775 rfl ?_
    refine V_argc 782 i 2 hs (by omega) hN d_Lw_law_776 d_Lw_law_777 d_Lw_law_779 rfl d_Lw_law_780 d_Lw_law_781 rfl ?_
    refine V_argc 788 i 3 hs (by omega) hN d_Lw_law_782 d_Lw_law_783 d_Lw_law_785 rfl d_Lw_law_786 d_Lw_law_787 rfl ?_
    refine V_argc 794 i 4 hs (by omega) hN d_Lw_law_788 d_Lw_law_789 d_Lw_law_791 rfl d_Lw_law_792 d_Lw_law_793 rfl ?_
    refine V_argc 800 i 5 hs (by omega) hN d_Lw_law_794 d_Lw_law_795 d_Lw_law_797 rfl d_Lw_law_798 d_Lw_law_799 rfl ?_
    have h8 : V l G x code 7 ret room_1 601024 7292999 (fun _ => False) lwP L M1 (cells + mc) (slots + ms) [some (.ref 1), some (.ref 2), some (.ref 400), some (.ref 450), some (.int (nI i)), (some (.int v)), (o6.map Value.int)] 808 [.int gv, .int (f (i + 4)), .int (f (i + 3)), .int (f (i + 2)), .int (f (i + 1)), .ref 400] := by
      refine V_cV1 811 (as := [.int (f (i + 1)), .int (f (i + 2)), .int (f (i + 3)), .int (f (i + 4)), .int gv]) h2 ok_Mo_request ml_Lw_98 im_Mo_request se_Mo_request (lM hA.2.1) kc_Mo (lw_rm (by decide) (by decide)) rfl rfl (Nat.le_of_ble_eq_true rfl) d_Lw_law_808 ⟨show cells + mc ≤ 601024 by omega, show slots + ms ≤ 7292999 by omega⟩ rfl ?_
      refine V_is6 813 d_Lw_law_811 (by decide) rfl ?_
      refine V_al2 814 d_Lw_law_813 rfl ?_
      refine V_cV1 817 (c_Mo_thrown l G L _ hA.2.1) ok_Mo_thrown ml_Lw_50 im_Mo_thrown se_Mo_thrown (lM hA.2.1) kc_Mo (lw_rm (by decide) (by decide)) rfl rfl (Nat.le_of_ble_eq_true rfl) d_Lw_law_814 ⟨show cells + mc ≤ 601024 by omega, show slots + ms ≤ 7292999 by omega⟩ rfl ?_
      refine V_topi hv2 ?_
      refine V_il5 819 d_Lw_law_817 rfl ?_
      refine V_icmp_eq 824 822 d_Lw_law_819 (by decide) rfl (fun _ => ?_) (fun h9 => absurd rfl h9)
      refine V_il5 826 d_Lw_law_824 rfl ?_
      have fin : V l G x code 7 ret room_1 601024 7292999 (fun _ => False) lwP L M2 (cells + mc) (slots + ms) [some (.ref 1), some (.ref 2), some (.ref 400), some (.ref 450), some (.int (nI i)), (some (.int v)), (some (.int N2))] 841 [] := by
        refine V_goto 958 d_Lw_law_841 (by decide) ?_
        exact V_pad (by omega) (by omega) (kk L M2 c K (some v) (some N2) hA hrel)
      refine V_if_ne 841 829 d_Lw_law_826 (by decide) rfl (fun _ => fin) (fun h0 => ?_)
      have hv0 : v = 0 := h0
      refine V_al3 830 d_Lw_law_829 rfl ?_
      refine V_iconst 831 (v := 0) (by decide) d_Lw_law_830 rfl ?_
      refine V_laln 832 0 hA.2.2 rfl (by decide) (by decide) d_Lw_law_831 rfl ?_
      rw [h450 hv0]
      refine V_il6 834 d_Lw_law_832 rfl ?_
      refine V_i2l 835 d_Lw_law_834 rfl ?_
      refine V_lcmp 836 d_Lw_law_835 rfl ?_
      refine V_topi (z := 0) (lcmp_eq _) ?_
      exact V_if_eq 841 839 d_Lw_law_836 (by decide) rfl (fun _ => fin) (fun h9 => absurd rfl h9)
    refine V_if_eq 807 803 d_Lw_law_800 (by decide) rfl (fun h9 => ?_) (fun h9 => ?_)
    · have e0 : gv = 0 := hg5.mpr h9
      subst e0
      exact V_iconst 808 (v := 0) (by decide) d_Lw_law_807 rfl h8
    · have e1 : gv = 1 := hgv.resolve_left (fun g => h9 (hg5.mp g))
      subst e1
      refine V_iconst 804 (v := 1) (by decide) d_Lw_law_803 rfl ?_
      exact V_goto 808 d_Lw_law_804 (by decide) h8
  refine V_if_eq 762 758 d_Lw_law_755 (by decide) rfl (fun h9 => ?_) (fun h9 => ?_)
  · exact V_iconst 763 (v := 0) (by decide) d_Lw_law_762 rfl (mainL 0 (Or.inl rfl) ⟨fun _ => h9, fun _ => rfl⟩)
  · refine V_iconst 759 (v := 1) (by decide) d_Lw_law_758 rfl ?_
    exact V_goto 763 d_Lw_law_759 (by decide) (mainL 1 (Or.inr rfl) ⟨fun g => absurd g (by decide), fun g => absurd g h9⟩)
end gCases2

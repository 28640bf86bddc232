/-! the law's cases -/
def lwP : Option Value → gLy → gMe → Prop := fun v _ _ => v = some (.int 1)
theorem lw_rm {d mc ms nL : Nat} (hd : d ≤ 60) (hn : nL ≤ 40) : gRm room_1 (rmL d mc ms) mc ms nL := ⟨rfl, rfl, by show d + 1 ≤ 2048; omega, by show 8 + (nL + 11) + 64 * d ≤ 84000; omega⟩
section gArg
variable {l : Launch} {G : gG} {y : MethodName} {cc : ByteArray} {nL : Nat} {ret : Option FieldType} {R : Room} {mc ms : Nat} {Z : Nat → Prop} {post : Option Value → gLy → gMe → Prop} {L : gLy} {M : gMe} {cells slots : Nat} {pc : Nat} {st : List Value} {a1 a2 a3 : Option Value} {t : List (Option Value)} {N : Nat} {f : Nat → Int32}
theorem V_argc (q i k : Nat) {n : Int} (hs : gSc G N f) (hik : i + k < N) (hN : N ≤ 4609) (d0 : decode cc pc = .ok (.aload_n 0, 1)) (d1 : decode cc (pc + 1) = .ok (.iload 4, 2)) (d2 : decode cc (pc + 3) = .ok (.iconst n, 1)) (hn : Int32.ofInt n = nI k) (d3 : decode cc (pc + 4) = .ok (.iadd, 1)) (d4 : decode cc (pc + 5) = .ok (.iaload, 1)) (hq : pc + 6 = q)
    (kk : V l G y cc nL ret R mc ms Z post L M cells slots (some (.ref 1) :: a1 :: a2 :: a3 :: some (.int (nI i)) :: t) q (.int (f (i + k)) :: st)) : V l G y cc nL ret R mc ms Z post L M cells slots (some (.ref 1) :: a1 :: a2 :: a3 :: some (.int (nI i)) :: t) pc st := by
  subst hq
  refine V_al0 (pc + 1) d0 rfl ?_
  refine V_il4 (pc + 3) d1 rfl ?_
  refine V_iconst (pc + 4) hn d2 rfl ?_
  refine V_iadd (pc + 5) d3 rfl ?_
  exact V_itab (pc + 6) (i + k) hs (by decide) (nI_add i k) hik (by omega) d4 rfl kk
theorem V_argb (q i k : Nat) {n : Int} (hs : gSc G N f) (hik : i + k < N) (hN : N ≤ 4609) (d0 : decode cc pc = .ok (.aload_n 0, 1)) (d1 : decode cc (pc + 1) = .ok (.iload 4, 2)) (d2 : decode cc (pc + 3) = .ok (.bipush n, 2)) (hn : (Int8.ofInt n).toInt32 = nI k) (d3 : decode cc (pc + 5) = .ok (.iadd, 1)) (d4 : decode cc (pc + 6) = .ok (.iaload, 1)) (hq : pc + 7 = q)
    (kk : V l G y cc nL ret R mc ms Z post L M cells slots (some (.ref 1) :: a1 :: a2 :: a3 :: some (.int (nI i)) :: t) q (.int (f (i + k)) :: st)) : V l G y cc nL ret R mc ms Z post L M cells slots (some (.ref 1) :: a1 :: a2 :: a3 :: some (.int (nI i)) :: t) pc st := by
  subst hq
  refine V_al0 (pc + 1) d0 rfl ?_
  refine V_il4 (pc + 3) d1 rfl ?_
  refine V_bipush (pc + 5) hn d2 rfl ?_
  refine V_iadd (pc + 6) d3 rfl ?_
  exact V_itab (pc + 7) (i + k) hs (by decide) (nI_add i k) hik (by omega) d4 rfl kk
end gArg
theorem gcl_lw {Z1 : Nat → Prop} {v : Int32} {o5 o6 : Option Int32} {st : List Value} (h1 : Z1 1) (h2 : Z1 2) (h3 : Z1 400) (h4 : Z1 450) (hst : ∀ a, Value.ref a ∈ st → Z1 a) : gcl Z1 [some (.ref 1), some (.ref 2), some (.ref 400), some (.ref 450), some (.int v), o5.map Value.int, o6.map Value.int] st := by
  refine ⟨fun a ha => ?_, hst⟩
  cases o5 <;> cases o6 <;> simp at ha <;> rcases ha with e | e | e | e <;> (rw [e]; assumption)
theorem lcmp_eq (a : Int64) : lg_cmp a a = 0 := by unfold lg_cmp; simp
section gCases
variable {l : Launch} {G : gG} {L : gLy} {M : gMe} {c : Nat} {K : Nat → Nat → Nat} {N i cells slots : Nat} {f : Nat → Int32} {o5 o6 : Option Int32}
set_option maxRecDepth 100000 in
set_option maxHeartbeats 4000000 in
theorem lw_4 (hs : gSc G N f) (hN : N ≤ 4609) (hi : i + 9 ≤ N) (hA : gLay L c) (h : gRl M M c K) (hcs : cells ≤ 5000) (hss : slots ≤ 100000) (kk : ∀ (L' : gLy) (M' : gMe) (c' : Nat) (K' : Nat → Nat → Nat) (o5' o6' : Option Int32), gLay L' c' → gRl M' M' c' K' → V l G x code 7 ret room_1 601024 7292999 (fun _ => False) lwP L' M' (cells + 3) (slots + 43) [some (.ref 1), some (.ref 2), some (.ref 400), some (.ref 450), some (.int (nI i)), (o5'.map Value.int), (o6'.map Value.int)] 958 []) : V l G x code 7 ret room_1 601024 7292999 (fun _ => False) lwP L M cells slots [some (.ref 1), some (.ref 2), some (.ref 400), some (.ref 450), some (.int (nI i)), (o5.map Value.int), (o6.map Value.int)] 489 [] := by
  refine V_al1 490 d_Lw_law_489 rfl ?_
  refine V_argc 496 i 1 hs (by omega) hN d_Lw_law_490 d_Lw_law_491 d_Lw_law_493 rfl d_Lw_law_494 d_Lw_law_495 rfl ?_
  obtain ⟨v, M1, M2, h1, h2, h3⟩ := z_pass (l := l) (G := G) hA h (f (i + 1))
  refine V_cV1 499 h1 ok_Ga_pass ml_Lw_63 im_Ga_pass se_Ga_pass (lC2 hA.1.1) kc_Ga (lw_rm (by decide) (by decide)) rfl rfl (Nat.le_of_ble_eq_true rfl) d_Lw_law_496 ⟨show cells ≤ 601024 by omega, show slots ≤ 7292999 by omega⟩ rfl ?_
  refine V_al2 500 d_Lw_law_499 rfl ?_
  refine V_argc 506 i 1 hs (by omega) hN d_Lw_law_500 d_Lw_law_501 d_Lw_law_503 rfl d_Lw_law_504 d_Lw_law_505 rfl ?_
  refine V_cV1 509 h2 ok_Mo_pass ml_Lw_67 im_Mo_pass se_Mo_pass (lM hA.2.1) kc_Mo (lw_rm (by decide) (by decide)) rfl rfl (Nat.le_of_ble_eq_true rfl) d_Lw_law_506 ⟨show cells ≤ 601024 by omega, show slots ≤ 7292999 by omega⟩ rfl ?_
  refine V_icmp_eq 958 512 d_Lw_law_509 (by decide) rfl (fun _ => ?_) (fun h9 => absurd rfl h9)
  exact V_pad (by omega) (by omega) (kk L M2 c K o5 o6 hA h3)
set_option maxRecDepth 100000 in
set_option maxHeartbeats 4000000 in
theorem lw_5 (hs : gSc G N f) (hN : N ≤ 4609) (hi : i + 9 ≤ N) (hA : gLay L c) (h : gRl M M c K) (hcs : cells ≤ 5000) (hss : slots ≤ 100000) (kk : ∀ (L' : gLy) (M' : gMe) (c' : Nat) (K' : Nat → Nat → Nat) (o5' o6' : Option Int32), gLay L' c' → gRl M' M' c' K' → V l G x code 7 ret room_1 601024 7292999 (fun _ => False) lwP L' M' (cells + 3) (slots + 43) [some (.ref 1), some (.ref 2), some (.ref 400), some (.ref 450), some (.int (nI i)), (o5'.map Value.int), (o6'.map Value.int)] 958 []) : V l G x code 7 ret room_1 601024 7292999 (fun _ => False) lwP L M cells slots [some (.ref 1), some (.ref 2), some (.ref 400), some (.ref 450), some (.int (nI i)), (o5.map Value.int), (o6.map Value.int)] 514 [] := by
  refine V_al1 515 d_Lw_law_514 rfl ?_
  refine V_argc 521 i 1 hs (by omega) hN d_Lw_law_515 d_Lw_law_516 d_Lw_law_518 rfl d_Lw_law_519 d_Lw_law_520 rfl ?_
  refine V_argc 527 i 2 hs (by omega) hN d_Lw_law_521 d_Lw_law_522 d_Lw_law_524 rfl d_Lw_law_525 d_Lw_law_526 rfl ?_
  refine V_argc 533 i 3 hs (by omega) hN d_Lw_law_527 d_Lw_law_528 d_Lw_law_530 rfl d_Lw_law_531 d_Lw_law_532 rfl ?_
  obtain ⟨v, M1, M2, h1, h2, h3⟩ := z_step (l := l) (G := G) hA h (f (i + 1)) (f (i + 2)) (f (i + 3))
  refine V_cV1 536 h1 ok_Ga_step ml_Lw_68 im_Ga_step se_Ga_step (lC2 hA.1.1) kc_Ga (lw_rm (by decide) (by decide)) rfl rfl (Nat.le_of_ble_eq_true rfl) d_Lw_law_533 ⟨show cells ≤ 601024 by omega, show slots ≤ 7292999 by omega⟩ rfl ?_
  refine V_al2 537 d_Lw_law_536 rfl ?_
  refine V_argc 543 i 1 hs (by omega) hN d_Lw_law_537 d_Lw_law_538 d_Lw_law_540 rfl d_Lw_law_541 d_Lw_law_542 rfl ?_
  refine V_argc 549 i 2 hs (by omega) hN d_Lw_law_543 d_Lw_law_544 d_Lw_law_546 rfl d_Lw_law_547 d_Lw_law_548 rfl ?_
  refine V_argc 555 i 3 hs (by omega) hN d_Lw_law_549 d_Lw_law_550 d_Lw_law_552 rfl d_Lw_law_553 d_Lw_law_554 rfl ?_
  refine V_cV1 558 h2 ok_Mo_step ml_Lw_72 im_Mo_step se_Mo_step (lM hA.2.1) kc_Mo (lw_rm (by decide) (by decide)) rfl rfl (Nat.le_of_ble_eq_true rfl) d_Lw_law_555 ⟨show cells ≤ 601024 by omega, show slots ≤ 7292999 by omega⟩ rfl ?_
  refine V_icmp_eq 958 561 d_Lw_law_558 (by decide) rfl (fun _ => ?_) (fun h9 => absurd rfl h9)
  exact V_pad (by omega) (by omega) (kk L M2 c K o5 o6 hA h3)
set_option maxRecDepth 100000 in
set_option maxHeartbeats 4000000 in
theorem lw_6 (hs : gSc G N f) (hN : N ≤ 4609) (hi : i + 9 ≤ N) (hA : gLay L c) (h : gRl M M c K) (hcs : cells ≤ 5000) (hss : slots ≤ 100000) (kk : ∀ (L' : gLy) (M' : gMe) (c' : Nat) (K' : Nat → Nat → Nat) (o5' o6' : Option Int32), gLay L' c' → gRl M' M' c' K' → V l G x code 7 ret room_1 601024 7292999 (fun _ => False) lwP L' M' (cells + 3) (slots + 43) [some (.ref 1), some (.ref 2), some (.ref 400), some (.ref 450), some (.int (nI i)), (o5'.map Value.int), (o6'.map Value.int)] 958 []) : V l G x code 7 ret room_1 601024 7292999 (fun _ => False) lwP L M cells slots [some (.ref 1), some (.ref 2), some (.ref 400), some (.ref 450), some (.int (nI i)), (o5.map Value.int), (o6.map Value.int)] 563 [] := by
  refine V_al1 564 d_Lw_law_563 rfl ?_
  obtain ⟨v, M1, M2, h1, h2, h3⟩ := z_clear (l := l) (G := G) hA h 
  refine V_cV1 567 h1 ok_Ga_clear ml_Lw_73 im_Ga_clear se_Ga_clear (lC2 hA.1.1) kc_Ga (lw_rm (by decide) (by decide)) rfl rfl (Nat.le_of_ble_eq_true rfl) d_Lw_law_564 ⟨show cells ≤ 601024 by omega, show slots ≤ 7292999 by omega⟩ rfl ?_
  refine V_al2 568 d_Lw_law_567 rfl ?_
  refine V_cV1 571 h2 ok_Mo_clear ml_Lw_76 im_Mo_clear se_Mo_clear (lM hA.2.1) kc_Mo (lw_rm (by decide) (by decide)) rfl rfl (Nat.le_of_ble_eq_true rfl) d_Lw_law_568 ⟨show cells ≤ 601024 by omega, show slots ≤ 7292999 by omega⟩ rfl ?_
  refine V_icmp_eq 958 574 d_Lw_law_571 (by decide) rfl (fun _ => ?_) (fun h9 => absurd rfl h9)
  exact V_pad (by omega) (by omega) (kk L M2 c K o5 o6 hA h3)
set_option maxRecDepth 100000 in
set_option maxHeartbeats 4000000 in
theorem lw_7 (hs : gSc G N f) (hN : N ≤ 4609) (hi : i + 9 ≤ N) (hA : gLay L c) (h : gRl M M c K) (hcs : cells ≤ 5000) (hss : slots ≤ 100000) (kk : ∀ (L' : gLy) (M' : gMe) (c' : Nat) (K' : Nat → Nat → Nat) (o5' o6' : Option Int32), gLay L' c' → gRl M' M' c' K' → V l G x code 7 ret room_1 601024 7292999 (fun _ => False) lwP L' M' (cells + 3) (slots + 43) [some (.ref 1), some (.ref 2), some (.ref 400), some (.ref 450), some (.int (nI i)), (o5'.map Value.int), (o6'.map Value.int)] 958 []) : V l G x code 7 ret room_1 601024 7292999 (fun _ => False) lwP L M cells slots [some (.ref 1), some (.ref 2), some (.ref 400), some (.ref 450), some (.int (nI i)), (o5.map Value.int), (o6.map Value.int)] 576 [] := by
  refine V_al1 577 d_Lw_law_576 rfl ?_
  obtain ⟨v, M1, M2, h1, h2, h3⟩ := z_steps (l := l) (G := G) hA h 
  refine V_cV1 580 h1 ok_Ga_steps ml_Lw_77 im_Ga_steps se_Ga_steps (lC2 hA.1.1) kc_Ga (lw_rm (by decide) (by decide)) rfl rfl (Nat.le_of_ble_eq_true rfl) d_Lw_law_577 ⟨show cells ≤ 601024 by omega, show slots ≤ 7292999 by omega⟩ rfl ?_
  refine V_al2 581 d_Lw_law_580 rfl ?_
  refine V_cV1 584 h2 ok_Mo_steps ml_Lw_80 im_Mo_steps se_Mo_steps (lM hA.2.1) kc_Mo (lw_rm (by decide) (by decide)) rfl rfl (Nat.le_of_ble_eq_true rfl) d_Lw_law_581 ⟨show cells ≤ 601024 by omega, show slots ≤ 7292999 by omega⟩ rfl ?_
  refine V_icmp_eq 958 587 d_Lw_law_584 (by decide) rfl (fun _ => ?_) (fun h9 => absurd rfl h9)
  exact V_pad (by omega) (by omega) (kk L M2 c K o5 o6 hA h3)
set_option maxRecDepth 100000 in
set_option maxHeartbeats 4000000 in
theorem lw_8 (hs : gSc G N f) (hN : N ≤ 4609) (hi : i + 9 ≤ N) (hA : gLay L c) (h : gRl M M c K) (hcs : cells ≤ 5000) (hss : slots ≤ 100000) (kk : ∀ (L' : gLy) (M' : gMe) (c' : Nat) (K' : Nat → Nat → Nat) (o5' o6' : Option Int32), gLay L' c' → gRl M' M' c' K' → V l G x code 7 ret room_1 601024 7292999 (fun _ => False) lwP L' M' (cells + 3) (slots + 43) [some (.ref 1), some (.ref 2), some (.ref 400), some (.ref 450), some (.int (nI i)), (o5'.map Value.int), (o6'.map Value.int)] 958 []) : V l G x code 7 ret room_1 601024 7292999 (fun _ => False) lwP L M cells slots [some (.ref 1), some (.ref 2), some (.ref 400), some (.ref 450), some (.int (nI i)), (o5.map Value.int), (o6.map Value.int)] 589 [] := by
  refine V_al1 590 d_Lw_law_589 rfl ?_
  refine V_argc 596 i 1 hs (by omega) hN d_Lw_law_590 d_Lw_law_591 d_Lw_law_593 rfl d_Lw_law_594 d_Lw_law_595 rfl ?_
  refine V_argc 602 i 2 hs (by omega) hN d_Lw_law_596 d_Lw_law_597 d_Lw_law_599 rfl d_Lw_law_600 d_Lw_law_601 rfl ?_
  obtain ⟨v, M1, M2, h1, h2, h3⟩ := z_stepAt (l := l) (G := G) hA h (f (i + 1)) (f (i + 2))
  refine V_cV1 605 h1 ok_Ga_stepAt ml_Lw_81 im_Ga_stepAt se_Ga_stepAt (lC2 hA.1.1) kc_Ga (lw_rm (by decide) (by decide)) rfl rfl (Nat.le_of_ble_eq_true rfl) d_Lw_law_602 ⟨show cells ≤ 601024 by omega, show slots ≤ 7292999 by omega⟩ rfl ?_
  refine V_al2 606 d_Lw_law_605 rfl ?_
  refine V_argc 612 i 1 hs (by omega) hN d_Lw_law_606 d_Lw_law_607 d_Lw_law_609 rfl d_Lw_law_610 d_Lw_law_611 rfl ?_
  refine V_argc 618 i 2 hs (by omega) hN d_Lw_law_612 d_Lw_law_613 d_Lw_law_615 rfl d_Lw_law_616 d_Lw_law_617 rfl ?_
  refine V_cV1 621 h2 ok_Mo_stepAt ml_Lw_85 im_Mo_stepAt se_Mo_stepAt (lM hA.2.1) kc_Mo (lw_rm (by decide) (by decide)) rfl rfl (Nat.le_of_ble_eq_true rfl) d_Lw_law_618 ⟨show cells ≤ 601024 by omega, show slots ≤ 7292999 by omega⟩ rfl ?_
  refine V_icmp_eq 958 624 d_Lw_law_621 (by decide) rfl (fun _ => ?_) (fun h9 => absurd rfl h9)
  exact V_pad (by omega) (by omega) (kk L M2 c K o5 o6 hA h3)
set_option maxRecDepth 100000 in
set_option maxHeartbeats 4000000 in
theorem lw_9 (hs : gSc G N f) (hN : N ≤ 4609) (hi : i + 9 ≤ N) (hA : gLay L c) (h : gRl M M c K) (hcs : cells ≤ 5000) (hss : slots ≤ 100000) (kk : ∀ (L' : gLy) (M' : gMe) (c' : Nat) (K' : Nat → Nat → Nat) (o5' o6' : Option Int32), gLay L' c' → gRl M' M' c' K' → V l G x code 7 ret room_1 601024 7292999 (fun _ => False) lwP L' M' (cells + 3) (slots + 43) [some (.ref 1), some (.ref 2), some (.ref 400), some (.ref 450), some (.int (nI i)), (o5'.map Value.int), (o6'.map Value.int)] 958 []) : V l G x code 7 ret room_1 601024 7292999 (fun _ => False) lwP L M cells slots [some (.ref 1), some (.ref 2), some (.ref 400), some (.ref 450), some (.int (nI i)), (o5.map Value.int), (o6.map Value.int)] 626 [] := by
  refine V_al1 627 d_Lw_law_626 rfl ?_
  refine V_argc 633 i 1 hs (by omega) hN d_Lw_law_627 d_Lw_law_628 d_Lw_law_630 rfl d_Lw_law_631 d_Lw_law_632 rfl ?_
  refine V_argc 639 i 2 hs (by omega) hN d_Lw_law_633 d_Lw_law_634 d_Lw_law_636 rfl d_Lw_law_637 d_Lw_law_638 rfl ?_
  refine V_argc 645 i 3 hs (by omega) hN d_Lw_law_639 d_Lw_law_640 d_Lw_law_642 rfl d_Lw_law_643 d_Lw_law_644 rfl ?_
  obtain ⟨v, M1, M2, h1, h2, h3⟩ := z_prove (l := l) (G := G) hA h (f (i + 1)) (f (i + 2)) (f (i + 3))
  refine V_cV1 648 h1 ok_Ga_prove ml_Lw_86 im_Ga_prove se_Ga_prove (lC2 hA.1.1) kc_Ga (lw_rm (by decide) (by decide)) rfl rfl (Nat.le_of_ble_eq_true rfl) d_Lw_law_645 ⟨show cells ≤ 601024 by omega, show slots ≤ 7292999 by omega⟩ rfl ?_
  refine V_al2 649 d_Lw_law_648 rfl ?_
  refine V_argc 655 i 1 hs (by omega) hN d_Lw_law_649 d_Lw_law_650 d_Lw_law_652 rfl d_Lw_law_653 d_Lw_law_654 rfl ?_
  refine V_argc 661 i 2 hs (by omega) hN d_Lw_law_655 d_Lw_law_656 d_Lw_law_658 rfl d_Lw_law_659 d_Lw_law_660 rfl ?_
  refine V_argc 667 i 3 hs (by omega) hN d_Lw_law_661 d_Lw_law_662 d_Lw_law_664 rfl d_Lw_law_665 d_Lw_law_666 rfl ?_
  refine V_cV1 670 h2 ok_Mo_prove ml_Lw_89 im_Mo_prove se_Mo_prove (lM hA.2.1) kc_Mo (lw_rm (by decide) (by decide)) rfl rfl (Nat.le_of_ble_eq_true rfl) d_Lw_law_667 ⟨show cells ≤ 601024 by omega, show slots ≤ 7292999 by omega⟩ rfl ?_
  refine V_icmp_eq 958 673 d_Lw_law_670 (by decide) rfl (fun _ => ?_) (fun h9 => absurd rfl h9)
  exact V_pad (by omega) (by omega) (kk L M2 c K o5 o6 hA h3)
set_option maxRecDepth 100000 in
set_option maxHeartbeats 4000000 in
theorem lw_10 (hs : gSc G N f) (hN : N ≤ 4609) (hi : i + 9 ≤ N) (hA : gLay L c) (h : gRl M M c K) (hcs : cells ≤ 5000) (hss : slots ≤ 100000) (kk : ∀ (L' : gLy) (M' : gMe) (c' : Nat) (K' : Nat → Nat → Nat) (o5' o6' : Option Int32), gLay L' c' → gRl M' M' c' K' → V l G x code 7 ret room_1 601024 7292999 (fun _ => False) lwP L' M' (cells + 3) (slots + 43) [some (.ref 1), some (.ref 2), some (.ref 400), some (.ref 450), some (.int (nI i)), (o5'.map Value.int), (o6'.map Value.int)] 958 []) : V l G x code 7 ret room_1 601024 7292999 (fun _ => False) lwP L M cells slots [some (.ref 1), some (.ref 2), some (.ref 400), some (.ref 450), some (.int (nI i)), (o5.map Value.int), (o6.map Value.int)] 675 [] := by
  refine V_al1 676 d_Lw_law_675 rfl ?_
  refine V_argc 682 i 1 hs (by omega) hN d_Lw_law_676 d_Lw_law_677 d_Lw_law_679 rfl d_Lw_law_680 d_Lw_law_681 rfl ?_
  refine V_argc 688 i 2 hs (by omega) hN d_Lw_law_682 d_Lw_law_683 d_Lw_law_685 rfl d_Lw_law_686 d_Lw_law_687 rfl ?_
  refine V_argc 694 i 3 hs (by omega) hN d_Lw_law_688 d_Lw_law_689 d_Lw_law_691 rfl d_Lw_law_692 d_Lw_law_693 rfl ?_
  obtain ⟨v, M1, M2, h1, h2, h3⟩ := z_check (l := l) (G := G) hA h (f (i + 1)) (f (i + 2)) (f (i + 3))
  refine V_cV1 697 h1 ok_Ga_check ml_Lw_90 im_Ga_check se_Ga_check (lC2 hA.1.1) kc_Ga (lw_rm (by decide) (by decide)) rfl rfl (Nat.le_of_ble_eq_true rfl) d_Lw_law_694 ⟨show cells ≤ 601024 by omega, show slots ≤ 7292999 by omega⟩ rfl ?_
  refine V_al2 698 d_Lw_law_697 rfl ?_
  refine V_argc 704 i 1 hs (by omega) hN d_Lw_law_698 d_Lw_law_699 d_Lw_law_701 rfl d_Lw_law_702 d_Lw_law_703 rfl ?_
  refine V_argc 710 i 2 hs (by omega) hN d_Lw_law_704 d_Lw_law_705 d_Lw_law_707 rfl d_Lw_law_708 d_Lw_law_709 rfl ?_
  refine V_argc 716 i 3 hs (by omega) hN d_Lw_law_710 d_Lw_law_711 d_Lw_law_713 rfl d_Lw_law_714 d_Lw_law_715 rfl ?_
  refine V_cV1 719 h2 ok_Mo_check ml_Lw_94 im_Mo_check se_Mo_check (lM hA.2.1) kc_Mo (lw_rm (by decide) (by decide)) rfl rfl (Nat.le_of_ble_eq_true rfl) d_Lw_law_716 ⟨show cells ≤ 601024 by omega, show slots ≤ 7292999 by omega⟩ rfl ?_
  refine V_icmp_eq 958 722 d_Lw_law_719 (by decide) rfl (fun _ => ?_) (fun h9 => absurd rfl h9)
  exact V_pad (by omega) (by omega) (kk L M2 c K o5 o6 hA h3)
set_option maxRecDepth 100000 in
set_option maxHeartbeats 4000000 in
theorem lw_12 (hs : gSc G N f) (hN : N ≤ 4609) (hi : i + 9 ≤ N) (hA : gLay L c) (h : gRl M M c K) (hcs : cells ≤ 5000) (hss : slots ≤ 100000) (kk : ∀ (L' : gLy) (M' : gMe) (c' : Nat) (K' : Nat → Nat → Nat) (o5' o6' : Option Int32), gLay L' c' → gRl M' M' c' K' → V l G x code 7 ret room_1 601024 7292999 (fun _ => False) lwP L' M' (cells + 3) (slots + 43) [some (.ref 1), some (.ref 2), some (.ref 400), some (.ref 450), some (.int (nI i)), (o5'.map Value.int), (o6'.map Value.int)] 958 []) : V l G x code 7 ret room_1 601024 7292999 (fun _ => False) lwP L M cells slots [some (.ref 1), some (.ref 2), some (.ref 400), some (.ref 450), some (.int (nI i)), (o5.map Value.int), (o6.map Value.int)] 844 [] := by
  refine V_al1 845 d_Lw_law_844 rfl ?_
  refine V_argc 851 i 1 hs (by omega) hN d_Lw_law_845 d_Lw_law_846 d_Lw_law_848 rfl d_Lw_law_849 d_Lw_law_850 rfl ?_
  obtain ⟨v, M1, M2, h1, h2, h3⟩ := z_fuse (l := l) (G := G) hA h (f (i + 1))
  refine V_cV1 854 h1 ok_Ga_fuse ml_Lw_99 im_Ga_fuse se_Ga_fuse (lC2 hA.1.1) kc_Ga (lw_rm (by decide) (by decide)) rfl rfl (Nat.le_of_ble_eq_true rfl) d_Lw_law_851 ⟨show cells ≤ 601024 by omega, show slots ≤ 7292999 by omega⟩ rfl ?_
  refine V_al2 855 d_Lw_law_854 rfl ?_
  refine V_argc 861 i 1 hs (by omega) hN d_Lw_law_855 d_Lw_law_856 d_Lw_law_858 rfl d_Lw_law_859 d_Lw_law_860 rfl ?_
  refine V_cV1 864 h2 ok_Mo_fuse ml_Lw_103 im_Mo_fuse se_Mo_fuse (lM hA.2.1) kc_Mo (lw_rm (by decide) (by decide)) rfl rfl (Nat.le_of_ble_eq_true rfl) d_Lw_law_861 ⟨show cells ≤ 601024 by omega, show slots ≤ 7292999 by omega⟩ rfl ?_
  refine V_icmp_eq 958 867 d_Lw_law_864 (by decide) rfl (fun _ => ?_) (fun h9 => absurd rfl h9)
  exact V_pad (by omega) (by omega) (kk L M2 c K o5 o6 hA h3)
set_option maxRecDepth 100000 in
set_option maxHeartbeats 4000000 in
theorem lw_13 (hs : gSc G N f) (hN : N ≤ 4609) (hi : i + 9 ≤ N) (hA : gLay L c) (h : gRl M M c K) (hcs : cells ≤ 5000) (hss : slots ≤ 100000) (kk : ∀ (L' : gLy) (M' : gMe) (c' : Nat) (K' : Nat → Nat → Nat) (o5' o6' : Option Int32), gLay L' c' → gRl M' M' c' K' → V l G x code 7 ret room_1 601024 7292999 (fun _ => False) lwP L' M' (cells + 3) (slots + 43) [some (.ref 1), some (.ref 2), some (.ref 400), some (.ref 450), some (.int (nI i)), (o5'.map Value.int), (o6'.map Value.int)] 958 []) : V l G x code 7 ret room_1 601024 7292999 (fun _ => False) lwP L M cells slots [some (.ref 1), some (.ref 2), some (.ref 400), some (.ref 450), some (.int (nI i)), (o5.map Value.int), (o6.map Value.int)] 869 [] := by
  refine V_al1 870 d_Lw_law_869 rfl ?_
  refine V_argc 876 i 1 hs (by omega) hN d_Lw_law_870 d_Lw_law_871 d_Lw_law_873 rfl d_Lw_law_874 d_Lw_law_875 rfl ?_
  obtain ⟨v, M1, M2, h1, h2, h3⟩ := z_owner (l := l) (G := G) hA h (f (i + 1))
  refine V_cV1 879 h1 ok_Ga_owner ml_Lw_104 im_Ga_owner se_Ga_owner (lC2 hA.1.1) kc_Ga (lw_rm (by decide) (by decide)) rfl rfl (Nat.le_of_ble_eq_true rfl) d_Lw_law_876 ⟨show cells ≤ 601024 by omega, show slots ≤ 7292999 by omega⟩ rfl ?_
  refine V_al2 880 d_Lw_law_879 rfl ?_
  refine V_argc 886 i 1 hs (by omega) hN d_Lw_law_880 d_Lw_law_881 d_Lw_law_883 rfl d_Lw_law_884 d_Lw_law_885 rfl ?_
  refine V_cV1 889 h2 ok_Mo_owner ml_Lw_107 im_Mo_owner se_Mo_owner (lM hA.2.1) kc_Mo (lw_rm (by decide) (by decide)) rfl rfl (Nat.le_of_ble_eq_true rfl) d_Lw_law_886 ⟨show cells ≤ 601024 by omega, show slots ≤ 7292999 by omega⟩ rfl ?_
  refine V_icmp_eq 958 892 d_Lw_law_889 (by decide) rfl (fun _ => ?_) (fun h9 => absurd rfl h9)
  exact V_pad (by omega) (by omega) (kk L M2 c K o5 o6 hA h3)
set_option maxRecDepth 100000 in
set_option maxHeartbeats 4000000 in
theorem lw_14 (hs : gSc G N f) (hN : N ≤ 4609) (hi : i + 9 ≤ N) (hA : gLay L c) (h : gRl M M c K) (hcs : cells ≤ 5000) (hss : slots ≤ 100000) (kk : ∀ (L' : gLy) (M' : gMe) (c' : Nat) (K' : Nat → Nat → Nat) (o5' o6' : Option Int32), gLay L' c' → gRl M' M' c' K' → V l G x code 7 ret room_1 601024 7292999 (fun _ => False) lwP L' M' (cells + 3) (slots + 43) [some (.ref 1), some (.ref 2), some (.ref 400), some (.ref 450), some (.int (nI i)), (o5'.map Value.int), (o6'.map Value.int)] 958 []) : V l G x code 7 ret room_1 601024 7292999 (fun _ => False) lwP L M cells slots [some (.ref 1), some (.ref 2), some (.ref 400), some (.ref 450), some (.int (nI i)), (o5.map Value.int), (o6.map Value.int)] 894 [] := by
  refine V_al1 895 d_Lw_law_894 rfl ?_
  obtain ⟨v, M1, M2, h1, h2, h3⟩ := z_credentials (l := l) (G := G) hA h 
  refine V_cV1 898 h1 ok_Ga_credentials ml_Lw_108 im_Ga_credentials se_Ga_credentials (lC2 hA.1.1) kc_Ga (lw_rm (by decide) (by decide)) rfl rfl (Nat.le_of_ble_eq_true rfl) d_Lw_law_895 ⟨show cells ≤ 601024 by omega, show slots ≤ 7292999 by omega⟩ rfl ?_
  refine V_al2 899 d_Lw_law_898 rfl ?_
  refine V_cV1 902 h2 ok_Mo_credentials ml_Lw_111 im_Mo_credentials se_Mo_credentials (lM hA.2.1) kc_Mo (lw_rm (by decide) (by decide)) rfl rfl (Nat.le_of_ble_eq_true rfl) d_Lw_law_899 ⟨show cells ≤ 601024 by omega, show slots ≤ 7292999 by omega⟩ rfl ?_
  refine V_icmp_eq 958 905 d_Lw_law_902 (by decide) rfl (fun _ => ?_) (fun h9 => absurd rfl h9)
  exact V_pad (by omega) (by omega) (kk L M2 c K o5 o6 hA h3)
set_option maxRecDepth 100000 in
set_option maxHeartbeats 4000000 in
theorem lw_15 (hs : gSc G N f) (hN : N ≤ 4609) (hi : i + 9 ≤ N) (hA : gLay L c) (h : gRl M M c K) (hcs : cells ≤ 5000) (hss : slots ≤ 100000) (kk : ∀ (L' : gLy) (M' : gMe) (c' : Nat) (K' : Nat → Nat → Nat) (o5' o6' : Option Int32), gLay L' c' → gRl M' M' c' K' → V l G x code 7 ret room_1 601024 7292999 (fun _ => False) lwP L' M' (cells + 3) (slots + 43) [some (.ref 1), some (.ref 2), some (.ref 400), some (.ref 450), some (.int (nI i)), (o5'.map Value.int), (o6'.map Value.int)] 958 []) : V l G x code 7 ret room_1 601024 7292999 (fun _ => False) lwP L M cells slots [some (.ref 1), some (.ref 2), some (.ref 400), some (.ref 450), some (.int (nI i)), (o5.map Value.int), (o6.map Value.int)] 907 [] := by
  refine V_al1 908 d_Lw_law_907 rfl ?_
  refine V_argc 914 i 1 hs (by omega) hN d_Lw_law_908 d_Lw_law_909 d_Lw_law_911 rfl d_Lw_law_912 d_Lw_law_913 rfl ?_
  obtain ⟨v, M1, M2, h1, h2, h3⟩ := z_valid (l := l) (G := G) hA h (f (i + 1))
  refine V_cV1 917 h1 ok_Ga_valid ml_Lw_112 im_Ga_valid se_Ga_valid (lC2 hA.1.1) kc_Ga (lw_rm (by decide) (by decide)) rfl rfl (Nat.le_of_ble_eq_true rfl) d_Lw_law_914 ⟨show cells ≤ 601024 by omega, show slots ≤ 7292999 by omega⟩ rfl ?_
  refine V_al2 918 d_Lw_law_917 rfl ?_
  refine V_argc 924 i 1 hs (by omega) hN d_Lw_law_918 d_Lw_law_919 d_Lw_law_921 rfl d_Lw_law_922 d_Lw_law_923 rfl ?_
  refine V_cV1 927 h2 ok_Mo_valid ml_Lw_115 im_Mo_valid se_Mo_valid (lM hA.2.1) kc_Mo (lw_rm (by decide) (by decide)) rfl rfl (Nat.le_of_ble_eq_true rfl) d_Lw_law_924 ⟨show cells ≤ 601024 by omega, show slots ≤ 7292999 by omega⟩ rfl ?_
  refine V_icmp_eq 958 930 d_Lw_law_927 (by decide) rfl (fun _ => ?_) (fun h9 => absurd rfl h9)
  exact V_pad (by omega) (by omega) (kk L M2 c K o5 o6 hA h3)
set_option maxRecDepth 100000 in
set_option maxHeartbeats 4000000 in
theorem lw_16 (hs : gSc G N f) (hN : N ≤ 4609) (hi : i + 9 ≤ N) (hA : gLay L c) (h : gRl M M c K) (hcs : cells ≤ 5000) (hss : slots ≤ 100000) (kk : ∀ (L' : gLy) (M' : gMe) (c' : Nat) (K' : Nat → Nat → Nat) (o5' o6' : Option Int32), gLay L' c' → gRl M' M' c' K' → V l G x code 7 ret room_1 601024 7292999 (fun _ => False) lwP L' M' (cells + 3) (slots + 43) [some (.ref 1), some (.ref 2), some (.ref 400), some (.ref 450), some (.int (nI i)), (o5'.map Value.int), (o6'.map Value.int)] 958 []) : V l G x code 7 ret room_1 601024 7292999 (fun _ => False) lwP L M cells slots [some (.ref 1), some (.ref 2), some (.ref 400), some (.ref 450), some (.int (nI i)), (o5.map Value.int), (o6.map Value.int)] 932 [] := by
  refine V_al1 933 d_Lw_law_932 rfl ?_
  obtain ⟨v, M1, M2, h1, h2, h3⟩ := z_grants (l := l) (G := G) hA h 
  refine V_cV1 936 h1 ok_Ga_grants ml_Lw_116 im_Ga_grants se_Ga_grants (lC2 hA.1.1) kc_Ga (lw_rm (by decide) (by decide)) rfl rfl (Nat.le_of_ble_eq_true rfl) d_Lw_law_933 ⟨show cells ≤ 601024 by omega, show slots ≤ 7292999 by omega⟩ rfl ?_
  refine V_al2 937 d_Lw_law_936 rfl ?_
  refine V_cV1 940 h2 ok_Mo_grants ml_Lw_119 im_Mo_grants se_Mo_grants (lM hA.2.1) kc_Mo (lw_rm (by decide) (by decide)) rfl rfl (Nat.le_of_ble_eq_true rfl) d_Lw_law_937 ⟨show cells ≤ 601024 by omega, show slots ≤ 7292999 by omega⟩ rfl ?_
  refine V_icmp_eq 958 943 d_Lw_law_940 (by decide) rfl (fun _ => ?_) (fun h9 => absurd rfl h9)
  exact V_pad (by omega) (by omega) (kk L M2 c K o5 o6 hA h3)
set_option maxRecDepth 100000 in
set_option maxHeartbeats 4000000 in
theorem lw_17 (hs : gSc G N f) (hN : N ≤ 4609) (hi : i + 9 ≤ N) (hA : gLay L c) (h : gRl M M c K) (hcs : cells ≤ 5000) (hss : slots ≤ 100000) (kk : ∀ (L' : gLy) (M' : gMe) (c' : Nat) (K' : Nat → Nat → Nat) (o5' o6' : Option Int32), gLay L' c' → gRl M' M' c' K' → V l G x code 7 ret room_1 601024 7292999 (fun _ => False) lwP L' M' (cells + 3) (slots + 43) [some (.ref 1), some (.ref 2), some (.ref 400), some (.ref 450), some (.int (nI i)), (o5'.map Value.int), (o6'.map Value.int)] 958 []) : V l G x code 7 ret room_1 601024 7292999 (fun _ => False) lwP L M cells slots [some (.ref 1), some (.ref 2), some (.ref 400), some (.ref 450), some (.int (nI i)), (o5.map Value.int), (o6.map Value.int)] 945 [] := by
  refine V_al1 946 d_Lw_law_945 rfl ?_
  obtain ⟨v, M1, M2, h1, h2, h3⟩ := z_chain (l := l) (G := G) hA h 
  refine V_cV1 949 h1 ok_Ga_chain ml_Lw_120 im_Ga_chain se_Ga_chain (lC2 hA.1.1) kc_Ga (lw_rm (by decide) (by decide)) rfl rfl (Nat.le_of_ble_eq_true rfl) d_Lw_law_946 ⟨show cells ≤ 601024 by omega, show slots ≤ 7292999 by omega⟩ rfl ?_
  refine V_al2 950 d_Lw_law_949 rfl ?_
  refine V_cV1 953 h2 ok_Mo_chain ml_Lw_123 im_Mo_chain se_Mo_chain (lM hA.2.1) kc_Mo (lw_rm (by decide) (by decide)) rfl rfl (Nat.le_of_ble_eq_true rfl) d_Lw_law_950 ⟨show cells ≤ 601024 by omega, show slots ≤ 7292999 by omega⟩ rfl ?_
  refine V_icmp_eq 958 956 d_Lw_law_953 (by decide) rfl (fun _ => ?_) (fun h9 => absurd rfl h9)
  exact V_pad (by omega) (by omega) (kk L M2 c K o5 o6 hA h3)
set_option maxRecDepth 100000 in
set_option maxHeartbeats 4000000 in
theorem lw_2 (hs : gSc G N f) (hN : N ≤ 4609) (hi : i + 9 ≤ N) (hA : gLay L c) (h : gRl M M c K) (hcs : cells ≤ 5000) (hss : slots ≤ 100000) (kk : ∀ (L' : gLy) (M' : gMe) (c' : Nat) (K' : Nat → Nat → Nat) (o5' o6' : Option Int32), gLay L' c' → gRl M' M' c' K' → V l G x code 7 ret room_1 601024 7292999 (fun _ => False) lwP L' M' (cells + 3) (slots + 43) [some (.ref 1), some (.ref 2), some (.ref 400), some (.ref 450), some (.int (nI i)), (o5'.map Value.int), (o6'.map Value.int)] 958 []) : V l G x code 7 ret room_1 601024 7292999 (fun _ => False) lwP L M cells slots [some (.ref 1), some (.ref 2), some (.ref 400), some (.ref 450), some (.int (nI i)), (o5.map Value.int), (o6.map Value.int)] 355 [] := by
  refine V_al1 356 d_Lw_law_355 rfl ?_
  refine V_argc 362 i 1 hs (by omega) hN d_Lw_law_356 d_Lw_law_357 d_Lw_law_359 rfl d_Lw_law_360 d_Lw_law_361 rfl ?_
  refine V_argc 368 i 2 hs (by omega) hN d_Lw_law_362 d_Lw_law_363 d_Lw_law_365 rfl d_Lw_law_366 d_Lw_law_367 rfl ?_
  refine V_argc 374 i 3 hs (by omega) hN d_Lw_law_368 d_Lw_law_369 d_Lw_law_371 rfl d_Lw_law_372 d_Lw_law_373 rfl ?_
  refine V_argc 380 i 4 hs (by omega) hN d_Lw_law_374 d_Lw_law_375 d_Lw_law_377 rfl d_Lw_law_378 d_Lw_law_379 rfl ?_
  obtain ⟨M1, eM1⟩ : ∃ M1, M1 = (gst (gst (gst (gst M 3 0 (f (i + 1))) 3 1 (f (i + 2))) 3 2 (f (i + 3))) 3 3 (f (i + 4))) := ⟨_, rfl⟩
  have h1 := c_Ga_set l G L M hA.1.1 (f (i + 1)) (f (i + 2)) (f (i + 3)) (f (i + 4))
  rw [← eM1] at h1
  refine V_cV0 383 h1 ok_Ga_set ml_Lw_54 im_Ga_set se_Ga_set (lC2 hA.1.1) kc_Ga (lw_rm (by decide) (by decide)) rfl rfl (Nat.le_of_ble_eq_true rfl) d_Lw_law_380 ⟨show cells ≤ 601024 by omega, show slots ≤ 7292999 by omega⟩ rfl ?_
  refine V_al2 384 d_Lw_law_383 rfl ?_
  refine V_argc 390 i 1 hs (by omega) hN d_Lw_law_384 d_Lw_law_385 d_Lw_law_387 rfl d_Lw_law_388 d_Lw_law_389 rfl ?_
  refine V_argc 396 i 2 hs (by omega) hN d_Lw_law_390 d_Lw_law_391 d_Lw_law_393 rfl d_Lw_law_394 d_Lw_law_395 rfl ?_
  refine V_argc 402 i 3 hs (by omega) hN d_Lw_law_396 d_Lw_law_397 d_Lw_law_399 rfl d_Lw_law_400 d_Lw_law_401 rfl ?_
  refine V_argc 408 i 4 hs (by omega) hN d_Lw_law_402 d_Lw_law_403 d_Lw_law_405 rfl d_Lw_law_406 d_Lw_law_407 rfl ?_
  refine V_cV0 411 (c_Mo_set l G L M1 hA.2.1 (f (i + 1)) (f (i + 2)) (f (i + 3)) (f (i + 4))) ok_Mo_set ml_Lw_58 im_Mo_set se_Mo_set (lM hA.2.1) kc_Mo (lw_rm (by decide) (by decide)) rfl rfl (Nat.le_of_ble_eq_true rfl) d_Lw_law_408 ⟨show cells ≤ 601024 by omega, show slots ≤ 7292999 by omega⟩ rfl ?_
  refine V_goto 958 d_Lw_law_411 (by decide) ?_
  have e1 : ∀ b, 400 ≤ b → b ≠ 450 → M1 b = M b := fun b hb _ => by rw [eM1, gst_ne _ _ _ _ (by omega), gst_ne _ _ _ _ (by omega), gst_ne _ _ _ _ (by omega), gst_ne _ _ _ _ (by omega)]
  have h9 := o_set (rel_mid h e1) (f (i + 1)) (f (i + 2)) (f (i + 3)) (f (i + 4))
  rw [← eM1] at h9
  exact V_pad (by omega) (by omega) (kk L _ c K o5 o6 hA (rel_fin h9 (fun b hb => by rw [gst_ne _ _ _ _ (by omega), gst_ne _ _ _ _ (by omega), gst_ne _ _ _ _ (by omega), gst_ne _ _ _ _ (by omega)]; exact mF_lo (by omega))))
set_option maxRecDepth 100000 in
set_option maxHeartbeats 4000000 in
theorem lw_0 (hG : ∃ (G0 : gG) (z : Nat), G = gG1 G0 z ∧ gSt G0) (hs : gSc G N f) (hN : N ≤ 4609) (hi : i + 9 ≤ N) (hA : gLay L c) (h : gRl M M c K) (hcs : cells ≤ 5000) (hss : slots ≤ 100000) (kk : ∀ (L' : gLy) (M' : gMe) (c' : Nat) (K' : Nat → Nat → Nat) (o5' o6' : Option Int32), gLay L' c' → gRl M' M' c' K' → V l G x code 7 ret room_1 601024 7292999 (fun _ => False) lwP L' M' (cells + 3) (slots + 43) [some (.ref 1), some (.ref 2), some (.ref 400), some (.ref 450), some (.int (nI i)), (o5'.map Value.int), (o6'.map Value.int)] 958 []) : V l G x code 7 ret room_1 601024 7292999 (fun _ => False) lwP L M cells slots [some (.ref 1), some (.ref 2), some (.ref 400), some (.ref 450), some (.int (nI i)), (o5.map Value.int), (o6.map Value.int)] 136 [] := by
  refine V_al1 137 d_Lw_law_136 rfl ?_
  refine V_argc 143 i 1 hs (by omega) hN d_Lw_law_137 d_Lw_law_138 d_Lw_law_140 rfl d_Lw_law_141 d_Lw_law_142 rfl ?_
  refine V_argc 149 i 2 hs (by omega) hN d_Lw_law_143 d_Lw_law_144 d_Lw_law_146 rfl d_Lw_law_147 d_Lw_law_148 rfl ?_
  refine V_argc 155 i 3 hs (by omega) hN d_Lw_law_149 d_Lw_law_150 d_Lw_law_152 rfl d_Lw_law_153 d_Lw_law_154 rfl ?_
  refine V_argc 161 i 4 hs (by omega) hN d_Lw_law_155 d_Lw_law_156 d_Lw_law_158 rfl d_Lw_law_159 d_Lw_law_160 rfl ?_
  refine V_argc 167 i 5 hs (by omega) hN d_Lw_law_161 d_Lw_law_162 d_Lw_law_164 rfl d_Lw_law_165 d_Lw_law_166 rfl ?_
  refine V_argb 174 i 6 hs (by omega) hN d_Lw_law_167 d_Lw_law_168 d_Lw_law_170 rfl d_Lw_law_172 d_Lw_law_173 rfl ?_
  refine V_argb 181 i 7 hs (by omega) hN d_Lw_law_174 d_Lw_law_175 d_Lw_law_177 rfl d_Lw_law_179 d_Lw_law_180 rfl ?_
  refine V_argb 188 i 8 hs (by omega) hN d_Lw_law_181 d_Lw_law_182 d_Lw_law_184 rfl d_Lw_law_186 d_Lw_law_187 rfl ?_
  obtain ⟨G0, z, rfl, hst⟩ := hG
  have hN1 := hA.1.2.2.2.2
  have hno : ∀ q, 300 ≤ q → q < 303 → L q = none := fun q a b => hA.1.2.2.2.1 q (by have := h.2.2.2.2.1.1.1; unfold cP; omega) (by omega)
  have h1 := gMet.swap (z := z) (c_Ga_seal2 l G0 L M hA.1.1 hst (hno 300 (by decide) (by decide)) (hno 301 (by decide) (by decide)) (hno 302 (by decide) (by decide)) (f (i + 1)) (f (i + 2)) (f (i + 3)) (f (i + 4)) (f (i + 5)) (f (i + 6)) (f (i + 7)) (f (i + 8))) hN1 (fun v hv e9 => by subst e9; simp at hv) (fun v L' M' hpo => by obtain ⟨rfl, rfl, rfl⟩ := hpo; exact ⟨(fun e9 => by cases e9), hN1⟩)
  refine V_callV 191 (as := [.int (f (i + 1)), .int (f (i + 2)), .int (f (i + 3)), .int (f (i + 4)), .int (f (i + 5)), .int (f (i + 6)), .int (f (i + 7)), .int (f (i + 8))]) h1 ok_Ga_seal ml_Lw_41 im_Ga_seal se_Ga_seal (lC2 hA.1.1) kc_Ga (lw_rm (by decide) (by decide)) rfl rfl (Nat.le_of_ble_eq_true rfl) d_Lw_law_188 ⟨show cells + 3 ≤ 601024 by omega, show slots + 14 ≤ 7292999 by omega⟩ (fun a ha => ha.elim) (gcl_lw ⟨by decide, by decide, by decide⟩ ⟨by decide, by decide, by decide⟩ ⟨by decide, by decide, by decide⟩ ⟨by decide, by decide, by decide⟩ (fun a ha => by simp at ha)) rfl ?_
  intro v9 L9 M9 hpo
  obtain ⟨rfl, e2, e3⟩ := hpo
  rw [e2, e3]
  refine V_al2 192 d_Lw_law_191 rfl ?_
  refine V_argc 198 i 1 hs (by omega) hN d_Lw_law_192 d_Lw_law_193 d_Lw_law_195 rfl d_Lw_law_196 d_Lw_law_197 rfl ?_
  refine V_argc 204 i 2 hs (by omega) hN d_Lw_law_198 d_Lw_law_199 d_Lw_law_201 rfl d_Lw_law_202 d_Lw_law_203 rfl ?_
  refine V_argc 210 i 3 hs (by omega) hN d_Lw_law_204 d_Lw_law_205 d_Lw_law_207 rfl d_Lw_law_208 d_Lw_law_209 rfl ?_
  refine V_argc 216 i 4 hs (by omega) hN d_Lw_law_210 d_Lw_law_211 d_Lw_law_213 rfl d_Lw_law_214 d_Lw_law_215 rfl ?_
  refine V_argc 222 i 5 hs (by omega) hN d_Lw_law_216 d_Lw_law_217 d_Lw_law_219 rfl d_Lw_law_220 d_Lw_law_221 rfl ?_
  refine V_argb 229 i 6 hs (by omega) hN d_Lw_law_222 d_Lw_law_223 d_Lw_law_225 rfl d_Lw_law_227 d_Lw_law_228 rfl ?_
  refine V_argb 236 i 7 hs (by omega) hN d_Lw_law_229 d_Lw_law_230 d_Lw_law_232 rfl d_Lw_law_234 d_Lw_law_235 rfl ?_
  refine V_argb 243 i 8 hs (by omega) hN d_Lw_law_236 d_Lw_law_237 d_Lw_law_239 rfl d_Lw_law_241 d_Lw_law_242 rfl ?_
  have h2 := c_Mo_seal l (gG1 G0 z) L M hA.2.1 (f (i + 1)) (f (i + 2)) (f (i + 3)) (f (i + 4)) (f (i + 5)) (f (i + 6)) (f (i + 7)) (f (i + 8))
  rw [← h.1.1] at h2
  refine V_cV1 246 h2 ok_Mo_seal ml_Lw_45 im_Mo_seal se_Mo_seal (lM hA.2.1) kc_Mo (lw_rm (by decide) (by decide)) rfl rfl (Nat.le_of_ble_eq_true rfl) d_Lw_law_243 ⟨show cells + 3 ≤ 601024 by omega, show slots + 14 ≤ 7292999 by omega⟩ rfl ?_
  refine V_icmp_eq 958 249 d_Lw_law_246 (by decide) rfl (fun _ => ?_) (fun h9 => absurd rfl h9)
  exact V_pad (by omega) (by omega) (kk L (mF M) c K o5 o6 hA (rel_fin (h.cR eR_mF) (fun b hb => mF_lo (by omega))))
end gCases

/-! what is known where the law begins -/
section gHes
variable {s : State} {D : va_G} {dA : Nat → ClassId} {sA : Nat → Nat}
/-- the law's start as a world -/
def gS (s : State) (D : va_G) (dA : Nat → ClassId) (sA : Nat → Nat) : gG := (D, dA, s.heap.size, s.heap, sA, fun U => s.WarmedH U.vm)
theorem gHe_of {P : State → Prop} (h : ∀ U : State, s.WarmedH U.vm → s.heap.size ≤ U.heap.size → (∀ q : Nat, q < s.heap.size → U.heap[q]? = s.heap[q]?) → P U) : gHe (gS s D dA sA) P := fun U U' h1 h2 h3 h4 => h U' (State.WarmedH.trans h1 h2) h3 h4
theorem gHe_Z {C n d : String} {v : Value} (h : va_Z C n d v (fun q => s.heap.size ≤ q) s s.heap) : gHe (gS s D dA sA) (fun U => va_Z C n d v (fun q => s.heap.size ≤ q) U U.heap) := gHe_of (fun U hW hz hq => (va_Z.moved hW.alike h).kept (fun a ha _ => hq a ha))
theorem gHe_T {ty : FieldType} {t N : Nat} {f : Nat → Value} (h : va_T ty t N f (fun q => s.heap.size ≤ q) s s.heap) : gHe (gS s D dA sA) (fun U => va_T ty t N f (fun q => s.heap.size ≤ q) U U.heap) := gHe_of (fun U hW hz hq => (va_T.moved hW.alike h).kept (fun a ha _ => hq a ha))
theorem lays_kept {U : State} {A A' : Array Value} {O n d : String} (hvm : s.vm.Alike U.vm) (hq : ∀ q : Nat, q < s.heap.size → U.heap[q]? = s.heap[q]?) (h : (Cond.laysStatic O n d).before A s = true) : (Cond.laysStatic O n d).before A' U = true := by
  obtain ⟨c, k, i, f, a, cell, hc, hi, hst, ha, hcell, hs, hcls, hlt, hty⟩ := Cond.laysStatic_spec h
  obtain ⟨k', hi', hek⟩ := State.fieldFound?_setVm hvm hi
  exact Cond.laysStatic_of (s := U) (by rw [hvm.findClass]; exact hc) hi' hst (by rw [hek]; exact ha) (by rw [hq a (Array.getElem?_eq_some_iff.mp hcell).1]; exact hcell) hs hcls hlt (by rw [hek]; exact hty)
theorem ref_kept {U : State} {A A' : Array Value} {O n d : String} (hvm : s.vm.Alike U.vm) (hq : ∀ q : Nat, q < s.heap.size → U.heap[q]? = s.heap[q]?) (hl : (Cond.laysStatic O n d).before A s = true) (h : (Cond.isRef (.static O n d)).before A s = true) : (Cond.isRef (.static O n d)).before A' U = true := by
  obtain ⟨c, k, i, f, a, cell, hc, hi, hst, ha, hcell, hs, hcls, hlt, hty⟩ := Cond.laysStatic_spec hl
  obtain ⟨v, hv, hr⟩ := Cond.isRef_spec h
  obtain ⟨-, a', cell', ha', hcell', -, hslot⟩ := Term.static_spec hi hv
  cases ha.symm.trans ha'
  cases hcell.symm.trans hcell'
  obtain ⟨k', hi', hek⟩ := State.fieldFound?_setVm hvm hi
  have hev : (Term.static O n d).eval A' U none [] U = some v := Term.static_eval (s := U) hi' hst (by rw [hek]; exact ha) (by rw [hq a (Array.getElem?_eq_some_iff.mp hcell).1]; exact hcell) hs hslot
  simp only [Cond.before, Cond.holds, Cond.value, hev]
  cases v <;> first | rfl | (exact absurd hr (by simp [Value.isRef]))
theorem decl_kept {U : State} {A A' : Array Value} {x : MethodName} (hvm : s.vm.Alike U.vm) (h : (Cond.declares x).before A s = true) : (Cond.declares x).before A' U = true := by
  have h1 : (Cond.declares x).before A (s.setVm U.vm) = true := by rw [Cond.declares_setVm hvm]; exact h
  exact va_tabs rfl (rfl : (s.setVm U.vm).vm = U.vm) h1
theorem ncast_kept {U : State} {A A' : Array Value} {C T : String} (hvm : s.vm.Alike U.vm) (h : (Cond.not (.castable C T)).before A s = true) : (Cond.not (.castable C T)).before A' U = true := by
  simp only [Cond.before, Cond.holds, Cond.value] at h ⊢
  simp only [hvm.findClass, hvm.assignable]
  exact h
end gHes
section gStart
variable {s : State} {b : Nat} {l : Launch}
/-- all that is known where the law begins -/
def stW : List Cond := lw_tbl ++ flatC (Jvm.Cond.and given_1 narrow_1)
theorem st_all (hts : ∀ w ∈ lw_tbl, w.before #[Value.ref b] s = true) (hgv : (Jvm.Cond.and given_1 narrow_1).before #[Value.ref b] s = true) {w : Cond} (h : stW.contains w = true) : w.before #[Value.ref b] s = true := by
  rw [List.contains_iff_mem] at h
  rcases List.mem_append.mp h with h | h
  · exact hts w h
  · exact flat_of_before _ hgv w h
theorem arr_prim {A : Array Value} {ty : FieldType} (h : (Cond.arrayClass ty).before A s = true) (hp : ∀ C, ty ≠ .object C) : ∃ c : ClassId, ArrOfT s c ty ∧ va_RA s c ty := by
  obtain ⟨c, k, comp, h1, h2, h3⟩ := Cond.arrayClass_spec h
  refine ⟨c, fun n z => ⟨(fun q hq => by cases hq), k, h2, comp, h3⟩, ?_⟩
  cases ty <;> first | exact h1 | exact absurd rfl (hp _)
theorem arr_obj {A : Array Value} {C : String} (h : (Cond.arrayOver (.object C)).before A s = true) : ∃ c : ClassId, ArrOfT s c (.object C) ∧ va_RA s c (.object C) := by
  obtain ⟨comp, c, k, h1, h2, h3, h4, h5⟩ := Cond.arrayOver_spec h
  exact ⟨c, fun n z => ⟨(fun q hq => by cases hq), k, h3, comp, h4⟩, k, comp, h3, h4, h1, h5⟩
theorem st_K (hts : ∀ w ∈ lw_tbl, w.before #[Value.ref b] s = true) : ∃ (D : va_G) (dA : Nat → ClassId), va_K D vwCl (tyL dA) s := by
  have htb : ∀ w ∈ TB, w.before #[Value.ref b] s = true := fun w hw => hts w (List.mem_filter.mp hw).1

  obtain ⟨c0, i0, h0⟩ := u_known (ws := TB) htb kc_AL.2.1 (htb _ in_AL)
  obtain ⟨c1, i1, h1⟩ := u_known (ws := TB) htb kc_Lg.2.1 (htb _ in_Lg)
  obtain ⟨c2, i2, h2⟩ := u_known (ws := TB) htb kc_Ck.2.1 (htb _ in_Ck)
  obtain ⟨c3, i3, h3⟩ := u_known (ws := TB) htb kc_Cr.2.1 (htb _ in_Cr)
  obtain ⟨c4, i4, h4⟩ := u_known (ws := TB) htb kc_Cs.2.1 (htb _ in_Cs)
  obtain ⟨c5, i5, h5⟩ := u_known (ws := TB) htb kc_Fa.2.1 (htb _ in_Fa)
  obtain ⟨c6, i6, h6⟩ := u_known (ws := TB) htb kc_Fu.2.1 (htb _ in_Fu)
  obtain ⟨c7, i7, h7⟩ := u_known (ws := TB) htb kc_Pf.2.1 (htb _ in_Pf)
  obtain ⟨c8, i8, h8⟩ := u_known (ws := TB) htb kc_Pv.2.1 (htb _ in_Pv)
  obtain ⟨c9, i9, h9⟩ := u_known (ws := TB) htb kc_Ga.2.1 (htb _ in_Ga)
  obtain ⟨c10, i10, h10⟩ := u_known (ws := TB) htb kc_Mo.2.1 (htb _ in_Mo)
  obtain ⟨a0, t0⟩ := arr_prim (ty := .int) (htb _ (exTb (by decide +kernel))) (fun C h => by cases h)
  obtain ⟨a1, t1⟩ := arr_prim (ty := .boolean) (htb _ (exTb (by decide +kernel))) (fun C h => by cases h)
  obtain ⟨a2, t2⟩ := arr_prim (ty := .long) (htb _ (exTb (by decide +kernel))) (fun C h => by cases h)
  obtain ⟨a3, t3⟩ := arr_obj (C := "ProofGate$Fact") (hts _ (List.contains_iff_mem.mp (by decide +kernel)))
  obtain ⟨a4, t4⟩ := arr_obj (C := "java/lang/Object") (hts _ (List.contains_iff_mem.mp (by decide +kernel)))
  refine ⟨(fun c => [c0, c1, c2, c3, c4, c5, c6, c7, c8, c9, c10].getD c 0, fun c => [i0, i1, i2, i3, i4, i5, i6, i7, i8, i9, i10].getD c i0), fun k => [a0, a1, a2, a3, a4].getD k 0, ?_, ?_⟩
  · intro c q hq
    match c, hq with
    | 0, hq => cases hq; exact h0
    | 1, hq => cases hq; exact h1
    | 2, hq => cases hq; exact h2
    | 3, hq => cases hq; exact h3
    | 4, hq => cases hq; exact h4
    | 5, hq => cases hq; exact h5
    | 6, hq => cases hq; exact h6
    | 7, hq => cases hq; exact h7
    | 8, hq => cases hq; exact h8
    | 9, hq => cases hq; exact h9
    | 10, hq => cases hq; exact h10
    | (n + 11), hq => cases hq
  · intro k q hq
    match k, hq with
    | 0, hq => cases hq; exact t0
    | 1, hq => cases hq; exact t1
    | 2, hq => cases hq; exact t2
    | 3, hq => cases hq; exact t3
    | 4, hq => cases hq; exact t4
    | (n + 5), hq => cases hq
theorem st_lim (hts : ∀ w ∈ lw_tbl, w.before #[Value.ref b] s = true) (hgv : (Jvm.Cond.and given_1 narrow_1).before #[Value.ref b] s = true) : ∃ t : Nat, va_Z "ProofGate$Credential" "LIMITS" "[I" (.ref t) (fun q => s.heap.size ≤ q) s s.heap ∧ va_T .int t 16 (fun j => .int (nI (lmT.getD j 0))) (fun q => s.heap.size ≤ q) s s.heap := by
  have hA : ∀ a : Nat, a < s.heap.size → ¬ (fun q => s.heap.size ≤ q) a := fun a ha h => Nat.lt_irrefl _ (Nat.lt_of_lt_of_le ha h)
  obtain ⟨t, h1, h2⟩ := va_Tof (tm := .static "ProofGate$Credential" "LIMITS" "[I") (ty := .int) (N := 16) (f := fun j => .int (nI (lmT.getD j 0))) (by decide) (st_all hts hgv (by decide +kernel)) (va_eqt (st_all hts hgv (by decide +kernel))) (fun j hj => by
    match j, hj with
    | 0, _ => exact va_eqt (z := nI (lmT.getD 0 0)) (st_all hts hgv (by decide +kernel))
    | 1, _ => exact va_eqt (z := nI (lmT.getD 1 0)) (st_all hts hgv (by decide +kernel))
    | 2, _ => exact va_eqt (z := nI (lmT.getD 2 0)) (st_all hts hgv (by decide +kernel))
    | 3, _ => exact va_eqt (z := nI (lmT.getD 3 0)) (st_all hts hgv (by decide +kernel))
    | 4, _ => exact va_eqt (z := nI (lmT.getD 4 0)) (st_all hts hgv (by decide +kernel))
    | 5, _ => exact va_eqt (z := nI (lmT.getD 5 0)) (st_all hts hgv (by decide +kernel))
    | 6, _ => exact va_eqt (z := nI (lmT.getD 6 0)) (st_all hts hgv (by decide +kernel))
    | 7, _ => exact va_eqt (z := nI (lmT.getD 7 0)) (st_all hts hgv (by decide +kernel))
    | 8, _ => exact va_eqt (z := nI (lmT.getD 8 0)) (st_all hts hgv (by decide +kernel))
    | 9, _ => exact va_eqt (z := nI (lmT.getD 9 0)) (st_all hts hgv (by decide +kernel))
    | 10, _ => exact va_eqt (z := nI (lmT.getD 10 0)) (st_all hts hgv (by decide +kernel))
    | 11, _ => exact va_eqt (z := nI (lmT.getD 11 0)) (st_all hts hgv (by decide +kernel))
    | 12, _ => exact va_eqt (z := nI (lmT.getD 12 0)) (st_all hts hgv (by decide +kernel))
    | 13, _ => exact va_eqt (z := nI (lmT.getD 13 0)) (st_all hts hgv (by decide +kernel))
    | 14, _ => exact va_eqt (z := nI (lmT.getD 14 0)) (st_all hts hgv (by decide +kernel))
    | 15, _ => exact va_eqt (z := nI (lmT.getD 15 0)) (st_all hts hgv (by decide +kernel))
    | (n + 16), h => omega) hA
  exact ⟨t, va_Zref (st_all hts hgv (by decide +kernel)) (st_all hts hgv (by decide +kernel)) h1 hA, h2⟩
theorem st_emp (hts : ∀ w ∈ lw_tbl, w.before #[Value.ref b] s = true) (hgv : (Jvm.Cond.and given_1 narrow_1).before #[Value.ref b] s = true) : ∃ t : Nat, va_Z "java/util/ArrayList" "DEFAULTCAPACITY_EMPTY_ELEMENTDATA" "[Ljava/lang/Object;" (.ref t) (fun q => s.heap.size ≤ q) s s.heap ∧ va_T (.object "java/lang/Object") t 0 (fun _ => .null) (fun q => s.heap.size ≤ q) s s.heap := by
  have hA : ∀ a : Nat, a < s.heap.size → ¬ (fun q => s.heap.size ≤ q) a := fun a ha h => Nat.lt_irrefl _ (Nat.lt_of_lt_of_le ha h)
  obtain ⟨t, h1, h2⟩ := va_Tof (tm := .static "java/util/ArrayList" "DEFAULTCAPACITY_EMPTY_ELEMENTDATA" "[Ljava/lang/Object;") (ty := .object "java/lang/Object") (N := 0) (f := fun _ => .null) (by decide) (st_all hts hgv (by decide +kernel)) (va_eqt (st_all hts hgv (by decide +kernel))) (fun j hj => absurd hj (Nat.not_lt_zero j)) hA
  exact ⟨t, va_Zref (st_all hts hgv (by decide +kernel)) (st_all hts hgv (by decide +kernel)) h1 hA, h2⟩
theorem st_AL {D : va_G} {dA : Nat → ClassId} (hts : ∀ w ∈ lw_tbl, w.before #[Value.ref b] s = true) (hgv : (Jvm.Cond.and given_1 narrow_1).before #[Value.ref b] s = true) : ∃ sA : Nat → Nat, gAL (gS s D dA sA) := by
  obtain ⟨t1, z1, a1⟩ := st_lim hts hgv
  obtain ⟨t0, z0, a0⟩ := st_emp hts hgv
  obtain ⟨mi, hmi⟩ := va_Mi.of (C := "[Ljava/lang/Object;") (st_all hts hgv (by decide +kernel))
  have hAO : va_AO "java/lang/Object" s := va_AO.of (st_all hts hgv (by decide +kernel))
  have hDc : va_Dc s := va_Dc.of (st_all hts hgv (by decide +kernel))
  refine ⟨fun k => if k = 0 then t0 else t1, ⟨gHe_Z z1, gHe_T a1, gHe_Z z0⟩, gHe_T a0, gHe_of (fun U hW _ _ => hAO.moved hW.alike), gHe_of (fun U hW _ _ => hDc.moved hW.alike), mi, gHe_of (fun U hW _ _ => hmi.moved hW.alike)⟩
theorem st_FA {D : va_G} {dA : Nat → ClassId} {sA : Nat → Nat} (hts : ∀ w ∈ lw_tbl, w.before #[Value.ref b] s = true) : gHe (gS s D dA sA) (fun U => va_AO "ProofGate$Fact" U) := by
  have hAO : va_AO "ProofGate$Fact" s := va_AO.of (hts _ (List.contains_iff_mem.mp (by decide +kernel)))
  exact gHe_of (fun U hW _ _ => hAO.moved hW.alike)
theorem st_str (hts : ∀ w ∈ lw_tbl, w.before #[Value.ref b] s = true) (hgv : (Jvm.Cond.and given_1 narrow_1).before #[Value.ref b] s = true) {k : Nat} {tx : String} (h1 : stW.contains (Cond.stringRef "ProofGate" k tx) = true) (h2 : stW.contains (Cond.exactly (.string "ProofGate" k) "java/lang/String") = true) : ∃ sa, vk_R "ProofGate" k tx sa s := by
  obtain ⟨a, _, _, _, ha, _⟩ := Cond.exactly_spec (st_all hts hgv h2)
  exact ⟨a, vk_R.of (st_all hts hgv h1) ha⟩
theorem st_Ex {D : va_G} {dA : Nat → ClassId} {sA : Nat → Nat} (hfl : l.flags = flags0) (hts : ∀ w ∈ lw_tbl, w.before #[Value.ref b] s = true) (hgv : (Jvm.Cond.and given_1 narrow_1).before #[Value.ref b] s = true) : gEx l (gS s D dA sA) := by
  refine ⟨?_, ?_, ?_, ?_⟩
  · simp [Launch.stackTraces, hfl, flags0]
  · intro w hw a
    have hl1 := st_all hts hgv (w := .laysStatic Bundle.tN "UNASSIGNED_STACK" Bundle.steD) (by decide +kernel)
    have hl2 := st_all hts hgv (w := .laysStatic Bundle.tN "SUPPRESSED_SENTINEL" Bundle.listD) (by decide +kernel)
    simp only [exW, List.mem_cons, List.not_mem_nil, or_false] at hw
    rcases hw with rfl | rfl | rfl | rfl | rfl | rfl | rfl
    · exact gHe_of (fun U hW _ hq => ref_kept hW.alike hq hl1 (st_all hts hgv (by decide +kernel)))
    · exact gHe_of (fun U hW _ hq => ref_kept hW.alike hq hl2 (st_all hts hgv (by decide +kernel)))
    · exact gHe_of (fun U hW _ hq => lays_kept hW.alike hq hl1)
    · exact gHe_of (fun U hW _ hq => lays_kept hW.alike hq hl2)
    · exact gHe_of (fun U hW _ hq => decl_kept hW.alike (st_all hts hgv (by decide +kernel)))
    · exact gHe_of (fun U hW _ hq => decl_kept hW.alike (st_all hts hgv (by decide +kernel)))
    · exact gHe_of (fun U hW _ hq => decl_kept hW.alike (st_all hts hgv (by decide +kernel)))
  · intro q hq
    have hs : ∃ sa, vk_R "ProofGate" q.1 q.2 sa s := by
      have h : exS.all (fun q => stW.contains (Cond.stringRef "ProofGate" q.1 q.2) && stW.contains (Cond.exactly (.string "ProofGate" q.1) "java/lang/String")) = true := by decide +kernel
      have h9 := List.all_eq_true.mp h q hq
      rw [Bool.and_eq_true] at h9
      exact st_str hts hgv h9.1 h9.2
    obtain ⟨sa, hsa⟩ := hs
    exact gHe_of (fun U hW _ _ => ⟨sa, hsa.warm hW⟩)
  · intro q hq
    have h : exN.all (fun q => stW.contains (Cond.not (.castable q.1 q.2))) = true := by decide +kernel
    exact gHe_of (fun U hW _ _ => ncast_kept hW.alike (st_all hts hgv (List.all_eq_true.mp h q hq)))
theorem st_Sc {D : va_G} {dA : Nat → ClassId} {sA : Nat → Nat} {N : Nat} {f : Nat → Int32} (hN : N ≤ 4609) (hb : b < s.heap.size) (h : va_X b N f s s.heap) : gSc (gG1 (gS s D dA sA) b) N f := by
  obtain ⟨scr, h1, h2, h3, h4, h5⟩ := h
  have ht : va_T .int b N (fun j => .int (f j)) (fun q => s.heap.size ≤ q) s s.heap := ⟨scr, h1, h2, h3, by omega, by rw [h4], h5, fun h => Nat.lt_irrefl _ (Nat.lt_of_lt_of_le hb h)⟩
  exact gHe_T (D := D) (dA := dA) (sA := sA) ht
theorem st_W {D : va_G} {dA : Nat → ClassId} {sA : Nat → Nat} (hts : ∀ w ∈ lw_tbl, w.before #[Value.ref b] s = true) (hK : va_K D vwCl (tyL dA) s) : gW (gG1 (gS s D dA sA) b) s := by
  refine ⟨fun w hw => ?_, fun w hw => ?_, hK, State.WarmedH.refl s, fun u U hW hu => State.WarmedH.trans hu hW⟩
  · exact word_at (args := #[Value.ref b]) (State.WarmedH.refl s) (good_of_word (TB_good w hw)) (hts w (List.mem_filter.mp hw).1)
  · exact va_any (nb_face w hw) (hts w (List.mem_filter.mp hw).1)
end gStart

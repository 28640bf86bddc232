/-! a method with an exception table: its contract, its calls, the catching -/
abbrev gTb : Type := List (Nat × Nat × Nat × Nat)
def gMetH (l : Launch) (G : gG) (y : MethodName) (cc : ByteArray) (nL : Nat) (ret : Option FieldType) (hs : gTb) (rm : Room) (as : List Value) (L : gLy) (M : gMe) (Z : Nat → Prop) (post : Option Value → gLy → gMe → Prop) (mc ms : Nat) : Prop :=
  ∀ r : Nat → Nat, Met l y [.codeWith y cc nL ret hs] rm (va_Pc (as.map (gV r)) (fun U => gW G U ∧ gR G r L M U.heap)) (gQ G r Z post) mc ms (fun q => G.2.2.1 ≤ q)
theorem gMetH_of {l : Launch} {G : gG} {y : MethodName} {cc : ByteArray} {nL : Nat} {ret : Option FieldType} {hs : gTb} {rm : Room} {as : List Value} {L : gLy} {M : gMe} {Z : Nat → Prop} {post : Option Value → gLy → gMe → Prop} {mc ms : Nat} {lv : List (Option Value)}
    (hy : plainName y.cls = true) (hc : as.all (fun v => v.category == 1) = true) (hn : as.length ≤ nL) (hlv : as.map some ++ List.replicate (nL - as.length) none = lv) (h : V l G y cc nL ret rm mc ms Z post L M 0 0 lv 0 []) (hnx : ∀ k L' M', ¬ post (some (.long k)) L' M' := by (intro k L' M' h9; exact absurd h9.1 (by simp))) : gMetH l G y cc nL ret hs rm as L M Z post mc ms := by
  intro r
  refine MetFree.of_bodyS (code := cc) (maxLocals := nL) (ret := ret) hy ?_ ?_
  · intro args s m h hn
    obtain ⟨m', meth, c, g1, g2, g3, g4, g5, -, g6, g7, -⟩ := Cond.codeWith_spec (atoms_spec (ws := [.codeWith y cc nL ret hs]) h _ List.mem_cons_self)
    cases hn.symm.trans g1
    exact ⟨meth, c, g2, g3, g4, g5, g6, g7⟩
  · intro p e s m args below meth c s₁ B hml hP _
    have hh0 : s₁.heap = s.heap := by rw [B.state]; rfl
    obtain ⟨t, a1, b⟩ := gBody hc hn hlv h r B hml hP s₁ hh0 (Stand.of_body B)
    rcases b with ⟨o, b1, b2, b3, b4⟩ | ⟨o, _, _, q, k, _, L9, M9, _, _, _, h9, _⟩
    · exact ⟨t, o, a1, b1, b2, b3, b4⟩
    · exact absurd h9 (hnx k L9 M9)
section gHand
variable {l : Launch} {G : gG} {y : MethodName} {cc : ByteArray} {nL : Nat} {ret : Option FieldType} {R : Room} {mc ms : Nat} {Z : Nat → Prop} {post : Option Value → gLy → gMe → Prop} {L L1 : gLy} {M M1 : gMe} {cells slots : Nat} {lv : List (Option Value)} {pc : Nat} {st : List Value}
variable {y1 : MethodName} {cc1 : ByteArray} {nL1 n1 : Nat} {ret1 : Option FieldType} {rm1 : Room} {as : List Value} {mc1 ms1 index : Nat} {Z1 : Nat → Prop} {post1 : Option Value → gLy → gMe → Prop} {k : Int64} {hs1 : gTb}
/-- the law's call of a method with an exception table -/
theorem V_callSH (q : Nat) {st0 : List Value} (hM : gMetH l G y1 cc1 nL1 ret1 hs1 rm1 as L M Z1 post1 mc1 ms1) (hcw : Cond.codeWith y1 cc1 nL1 ret1 hs1 ∈ TB) (hin : Cond.initialized y1.cls ∈ TB) (hyy : y1.cls ≠ "java/lang/invoke/MethodHandle" ∧ y1.cls ≠ "java/lang/invoke/VarHandle") (hnp : (parseMethodDescriptor y1.desc).map (fun d => d.parameters.length) = some n1) (hl : Cond.methodLink y.cls index y1 ∈ TB) (hk : Cond.static y1 ∈ TB) (hrm : gRm R rm1 mc1 ms1 nL1) (hn : as.length = n1) (hs0 : st0 = as.reverse ++ st) (hrest : (st.map fun v => v.category).sum ≤ 8) (d : decode cc pc = .ok (.invokestatic index, 3)) (hf : cells + mc1 ≤ R.cells ∧ slots + ms1 ≤ R.slots) (hZ1 : ∀ a, Z a → Z1 a) (hcl : gcl Z1 lv st) (hq : pc + 3 = q)
    (kk : ∀ v L' M', post1 v L' M' → V l G y cc nL ret R mc ms Z post L' M' (cells + mc1) (slots + ms1) lv q (v.toList ++ st)) : V l G y cc nL ret R mc ms Z post L M cells slots lv pc st0 := by
  subst hq
  subst hs0
  intro p e s m args below meth c r0 r H locs ls hC hZ hW hR hlo hls
  rw [grev]
  refine gcall hC hZ hW hlo hls ?_ hZ1 hcl kk (a1 := (as.map (gV r)).toArray)
  intro T hT X
  have hK : Back l R p e below s args y1 3 8 (PreOf R mc1 ms1 (va_Pc (as.map (gV r)) (fun U => gW G U ∧ gR G r L M U.heap))) (PostOf (gQ G r Z1 post1) mc1 ms1 (fun q => G.2.2.1 ≤ q)) := by
    refine Back.of_freeWith (handlers := hs1) (bytes := cc1) (maxL := nL1) (ret := ret1) (E := fun _ _ _ _ L9 k9 n9 => k9 = mc1 ∧ n9 = ms1 ∧ ∀ z ∈ L9, G.2.2.1 ≤ z.base) (hM r) hrm.2.2.1 hrm.2.2.2 ?_ ?_ ?_ ?_ ?_
    · intro m' meth' c' A a X' hp
      have hWA : gW G A.U := gW.moved X'.warmed hW
      refine ⟨atoms_intro fun w hw => gws hW hcw w hw _ _ X'.warmed, hWA.t hcw, hWA.t hin, ?_, ?_⟩
      · show A.cells + rm1.cells ≤ R.cells
        rw [hrm.1]; exact hp.1
      · show A.slots + rm1.slots ≤ R.slots
        rw [hrm.2.1]; exact hp.2.1
    · intro m' meth' c' A a g mk X' hp
      exact gblind _ _ _ _ hp.2.2
    · intro m' meth' c' A a g mk X' hp
      trivial
    · intro a first o t hq
      obtain ⟨h1, L9, h2, h3⟩ := hq
      exact ⟨L9, mc1, ms1, h2, rfl, rfl, h3⟩
    · intro m' meth' c' A a g mk v t L9 k9 n9 X' hp hq hF hE
      obtain ⟨rfl, rfl, hb⟩ := hE
      exact ⟨g, mk, t, L9, rfl, rfl, hq.1, rfl, hb, rfl, rfl⟩
  obtain ⟨v, vm1, ⟨U', l2, c2, s2⟩, hW1, X', ⟨g', mk, t, L9, e1, e2, hq, h1, hL, h2, h3⟩, st9⟩ := RoadKit.callSH X hC.1 (own := y.cls) (index := index) (bytes := cc1) (maxL := nL1) (ret := ret1) (hs := hs1) hC.2.2.2.2.1 (hW.t hl) (hW.t hk) (hW.t hin) (hW.t hcw) hyy hK
    (g := F0 m pc ls ((as.map (gV r)).reverse ++ st.map (gV r))) rfl (by rw [hC.2.2.2.1]; exact hls.1.1) (argsL := as.map (gV r)) (rest := st.map (gV r)) (fun sig h => by rw [List.length_map, hn]; exact gsig hnp _ h) rfl (by
      have h0 : (F0 m pc ls ((as.map (gV r)).reverse ++ st.map (gV r))).monitorRoom = 0 := rfl
      rw [h0, gcat]; omega) (by rw [hC.2.1]; exact d)
    (fun vm1 hW1 => ⟨hf.1, hf.2, rfl, gW.moved (U := T.setVm vm1) hW1 hW, by show gR G r L M T.heap; rw [hT]; exact hR⟩)
  dsimp only [Pt.U, Pt.locs, Pt.cells, Pt.slots] at X' e1 e2 h1 h2 h3 st9
  subst h1; subst h2; subst h3
  exact ⟨v, (T.setVm vm1).calling g' mk (as.map (gV r)).toArray, t, U', L9, hT, X', hL, e1, e2, hq, st9⟩
theorem gsplit {α β : Type} {f : α → β} : ∀ (hp : List β) (t : β) (hq : List β) (l9 : List α), l9.map f = hp ++ t :: hq → ∃ pre x suf, l9 = pre ++ x :: suf ∧ pre.map f = hp ∧ f x = t
  | [], t, hq, l9, h => by
    cases l9 with
    | nil => cases h
    | cons x l9 =>
      rw [List.map_cons, List.nil_append] at h
      injection h with h1 h2
      exact ⟨[], x, l9, rfl, rfl, h1⟩
  | b :: hp, t, hq, l9, h => by
    cases l9 with
    | nil => cases h
    | cons x l9 =>
      rw [List.map_cons, List.cons_append] at h
      injection h with h1 h2
      obtain ⟨pre, z, suf, g1, g2, g3⟩ := gsplit hp t hq l9 h2
      exact ⟨x :: pre, z, suf, by rw [g1]; rfl, by rw [List.map_cons, g2, h1], g3⟩
/-- a call that throws, caught: the handler lays the exception away -/
theorem V_catch (h n q9 : Nat) {st0 : List Value} {b ci N : Nat} {T9 : u_T} {ty : Nat → FieldType} {fs : List (Option Value)} {hs hp hq : gTb} {a0 b0 ct : Nat} (hM : gMetX l G y1 cc1 nL1 ret1 rm1 (.ref b :: as) L M Z1 k L1 M1 mc1 ms1) (hcw : Cond.codeWith y cc nL ret hs ∈ TB) (hsp : hs = hp ++ (a0, b0, h, ct) :: hq) (hcov : a0 ≤ pc ∧ pc < b0) (h0 : ct ≠ 0) (hlink : Cond.classLink y.cls ct (gXc k) ∈ TB) (hcast : Cond.castable (gXc k) (gXc k) ∈ NB)
    (hpass : ∀ t ∈ hp, t.2.2.2 ≠ 0 ∧ ∃ nm, Cond.classLink y.cls t.2.2.2 nm ∈ TB ∧ gHe G (fun U => (Cond.not (.castable (gXc k) nm)).before #[] U = true))
    (ok : gOK y1 cc1 nL1 ret1 n1) (hl : Cond.methodLink y.cls index y1 ∈ TB) (hk : Cond.instanceMethod y1 ∈ TB) (hsel : Cond.selects y1.cls y1 y1 ∈ TB) (hL : L b = some (.inr (ci, fs))) (hc : gCl ci y1.cls T9 N ty) (hrm : gRm R rm1 mc1 ms1 nL1) (hn : as.length = n1) (hs0 : st0 = as.reverse ++ .ref b :: st) (hrest : (st.map fun v => v.category).sum ≤ 8) (d : decode cc pc = .ok (.invokevirtual index, 3)) (dh : decode cc h = .ok (.astore n, 2)) (hnL : n < nL) (hf : cells + mc1 ≤ R.cells ∧ slots + ms1 ≤ R.slots) (hZ1 : ∀ a, Z a → Z1 a) (hcl : gcl Z1 lv st) (hq9 : h + 2 = q9)
    (kk : V l G y cc nL ret R mc ms Z post L1 M1 (cells + mc1) (slots + ms1) (lv.set n none) q9 []) : V l G y cc nL ret R mc ms Z post L M cells slots lv pc st0 := by
  subst hs0
  subst hq9
  intro p e s m args below meth c r0 r H locs ls hC hZ hW hR hlo hls T hT X
  rw [grev]
  obtain ⟨q, T', ce, r', L9, X', f1, f2, f3, ⟨f4, f5, f6⟩, f7⟩ := gxcall hC hW hR hls hM ok hl hk hsel hL hc hrm hn hrest d hf hT X
  have htab : c.exceptionTable.toList.map (fun h => (h.startPc, h.endPc, h.handlerPc, h.catchType)) = hp ++ (a0, b0, h, ct) :: hq := by
    obtain ⟨m9, meth9, c9, g1, g2, g3, -, -, g6, -⟩ := Cond.codeWith_spec (hW.t hcw (A := args))
    cases g1.symm.trans hC.2.2.2.2.2.2.2
    cases Option.some.inj (g2.symm.trans X.method)
    cases Option.some.inj (g3.symm.trans X.code)
    rw [← hsp]; exact g6
  obtain ⟨pre, x, suf, e1, e2, e3⟩ := gsplit hp _ hq _ htab
  have ex : x = ⟨a0, b0, h, ct⟩ := by
    obtain ⟨x1, x2, x3, x4⟩ := x
    injection e3 with q1 e3; injection e3 with q2 e3; injection e3 with q3 q4
    dsimp only at q1 q2 q3 q4
    rw [q1, q2, q3, q4]
  have hpl : e.platform.magicAccessors = ({} : Platform).magicAccessors := by rw [X.admits.platform]
  obtain ⟨c3, c4, hc3, hc4, hasg⟩ := Cond.castable_spec (va_Nw.use (A := args) (nb_face _ hcast) (hW.2.1 _ hcast))
  cases Option.some.inj (hc3.symm.trans f6)
  cases Option.some.inj (hc4.symm.trans hc3)
  obtain ⟨hcat, hk0⟩ := X'.catches_of_link hC.2.2.2.2.1 (x := x) (by rw [ex]; exact h0) (name := gXc k) (by rw [ex]; exact hW.t hlink) hc4 hasg
  obtain ⟨vm9, X9, st9⟩ := X'.thenCaughtThrough q (g := F0 m pc ls (st.map (gV r))) rfl f7 f4 (by rw [f5]; rfl) hk0 pre x suf e1 (fun z hz => by
    have hm : (z.startPc, z.endPc, z.handlerPc, z.catchType) ∈ hp := by rw [← e2]; exact List.mem_map.mpr ⟨z, hz, rfl⟩
    obtain ⟨g0, nm, g1, g2⟩ := hpass _ hm
    have g3 := g2 s (T.setVm s.vm) hW.2.2.2.1 (State.WarmedH.refl s) (by show G.2.2.1 ≤ T.heap.size; rw [hT]; exact hR.2.2.2.2.1) (fun q hq => by show T.heap[q]? = _; rw [hT]; exact hR.2.2.2.2.2 q hq)
    exact RowPassed.of_words hpl hC.2.2.2.2.1 g0 (hW.t g1 (A := #[])) f6 g3) (by rw [ex]; simp [covers, hcov.1, hcov.2]) hcat
  have hls' : gH ls nL r' lv := hls.re (fun a ha => f2 a (hcl.1 a ha))
  have hfin : W p l e R s m args below meth c T'.heap (locs ++ L9) (cells + mc1) (slots + ms1) (gMQ G below r0 Z post args s mc ms) (F0 m h ls [.ref q]) := by
    refine lv_astore hC.1 hC.2.1 dh hls'.1 hnL rfl (fun ls' h' => ?_)
    refine kk p e s m args below meth c r0 r' T'.heap (locs ++ L9) ls' hC (fun a ha => (f2 a (hZ1 a ha)).trans (hZ a ha)) hW f3 (fun z hz => (List.mem_append.mp hz).elim (hlo z) (f1 z)) ⟨⟨h'.1, h'.2.1, fun w hw => h'.2.2 w ?_⟩, fun v hv => ?_⟩
    · obtain ⟨v, g1, g2⟩ := gP_mem.mp hw
      have hwn : w.1 ≠ n := by
        intro hh
        rw [hh] at g1
        by_cases hlt : n < lv.length
        · rw [List.getElem?_set_self hlt] at g1; cases g1
        · rw [List.getElem?_eq_none (by rw [List.length_set]; omega)] at g1; cases g1
      rw [List.getElem?_set_ne (Ne.symm hwn)] at g1
      refine List.mem_cons_of_mem _ (List.mem_filter.mpr ⟨gP_mem.mpr ⟨v, g1, g2⟩, ?_⟩)
      have hcv : w.2.category = 1 := by rw [g2, gV_cat]; exact hls.2 v (List.mem_of_getElem? g1)
      simp [hwn, hcv]
    · rcases List.mem_or_eq_of_mem_set hv with hv | hv
      · exact hls.2 v hv
      · cases hv
  have eh : x.handlerPc = h := by rw [ex]
  rw [eh] at st9
  obtain ⟨t, a1, b1⟩ := hfin (T'.setVm vm9) rfl X9
  exact ⟨t, st9.trans a1, b1⟩
end gHand

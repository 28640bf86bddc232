/-! a method that throws: its contract, and its calls -/
theorem gBody {l : Launch} {G : gG} {y : MethodName} {cc : ByteArray} {nL : Nat} {ret : Option FieldType} {rm : Room} {as : List Value} {L : gLy} {M : gMe} {Z : Nat → Prop} {post : Option Value → gLy → gMe → Prop} {mc ms : Nat} {lv : List (Option Value)} {ws : List Cond}
    (hc : as.all (fun v => v.category == 1) = true) (hn : as.length ≤ nL) (hlv : as.map some ++ List.replicate (nL - as.length) none = lv) (h : V l G y cc nL ret rm mc ms Z post L M 0 0 lv 0 []) (r : Nat → Nat)
    {p : Program} {e : Env} {s : State} {m : MethodId} {args : Array Value} {below : List Frame} {meth : Method} {c : Code} {s₁ : State} (B : BodyLoose p l y (headSpec ws rm) cc nL ret e s m args below meth c s₁) (hml : c.maxLocals = nL) (hv : va_Pc (as.map (gV r)) (fun U => gW G U ∧ gR G r L M U.heap) args s) :
    W p l e (headSpec ws rm).room s m args below meth c s.heap [] 0 0 (gMQ G below r Z post args s mc ms) (entryFrame m args nL) := by
  obtain ⟨rfl, hW, hR⟩ := hv
  have hc1 : ∀ v ∈ as, v.category = 1 := fun v hv => by
    have := List.all_eq_true.mp hc v hv
    simpa using this
  have hc2 : ∀ w ∈ as.map (gV r), w.category = 1 := by
    intro w hw
    obtain ⟨v, hv, rfl⟩ := List.mem_map.mp hw
    rw [gV_cat]; exact hc1 v hv
  have hl := lv_entry (as.map (gV r)) (n := nL) (by rw [gA_len _ hc2, List.length_map]; exact hn)
  rw [lg_entry_eq]
  generalize (lg_sl (as.map (gV r)) ++ List.replicate (nL - (lg_sl (as.map (gV r))).length) Slot.unset).toArray = ls at hl ⊢
  refine h p e s m _ below meth c r r s.heap [] ls ⟨B.exec, B.bytes, B.returns, hml, findClass_of_methodNamed B.named, B.notSynchronized, (name_of_methodNamed B.named B.method).1, B.named⟩ (fun _ _ => rfl) hW hR (fun q h => by cases h) ⟨⟨hl.1, hl.2.1, fun q hq => hl.2.2 q ?_⟩, fun v hv => ?_⟩
  · obtain ⟨v, h1, h2⟩ := gP_mem.mp hq
    subst hlv
    by_cases hlt : q.1 < as.length
    · rw [List.getElem?_append_left (by simpa using hlt), List.getElem?_map] at h1
      cases ha : as[q.1]? with
      | none => rw [ha] at h1; cases h1
      | some w =>
        rw [ha] at h1
        cases h1
        have := gA_mem (as.map (gV r)) 0 q.1 (gV r v) hc2 (by rw [List.getElem?_map, ha]; rfl)
        rw [Nat.zero_add] at this
        obtain ⟨q1, q2⟩ := q
        dsimp only at h2 this ⊢
        rw [h2]; exact this
    · rw [List.getElem?_append_right (by simpa using Nat.le_of_not_lt hlt)] at h1
      have := List.mem_of_getElem? h1
      rw [List.mem_replicate] at this
      cases this.2
  · subst hlv
    rcases List.mem_append.mp hv with hv | hv
    · obtain ⟨w, hw, e⟩ := List.mem_map.mp hv
      cases e
      exact hc1 v hw
    · rw [List.mem_replicate] at hv
      cases hv.2
def gMetX (l : Launch) (G : gG) (y : MethodName) (cc : ByteArray) (nL : Nat) (ret : Option FieldType) (rm : Room) (as : List Value) (L : gLy) (M : gMe) (Z : Nat → Prop) (k : Int64) (L1 : gLy) (M1 : gMe) (mc ms : Nat) : Prop :=
  ∀ r : Nat → Nat, MetFree l y (headSpec [.code y cc nL ret] rm) (va_Pc (as.map (gV r)) (fun U => gW G U ∧ gR G r L M U.heap)) (fun _ _ _ _ _ => True) (fun _ st o t => gTh G r Z (gPo (some (.long k)) L1 M1) mc ms st o t)
theorem gMetX_of {l : Launch} {G : gG} {y : MethodName} {cc : ByteArray} {nL : Nat} {ret : Option FieldType} {rm : Room} {as : List Value} {L L1 : gLy} {M M1 : gMe} {Z : Nat → Prop} {k : Int64} {mc ms : Nat} {lv : List (Option Value)}
    (hy : plainName y.cls = true) (hc : as.all (fun v => v.category == 1) = true) (hn : as.length ≤ nL) (hlv : as.map some ++ List.replicate (nL - as.length) none = lv) (h : V l G y cc nL ret rm mc ms Z (gPo (some (.long k)) L1 M1) L M 0 0 lv 0 []) : gMetX l G y cc nL ret rm as L M Z k L1 M1 mc ms := by
  intro r
  refine MetFree.of_bodyS (code := cc) (maxLocals := nL) (ret := ret) hy ?_ ?_
  · intro args s m h hn
    obtain ⟨meth, c, h1, h2, h3, h4, h5, h6, -, -⟩ := Cond.code_spec hn (atoms_spec (ws := [.code y cc nL ret]) h _ List.mem_cons_self)
    exact ⟨meth, c, h1, h2, h3, h4, h5, h6⟩
  · intro p e s m args below meth c s₁ B hml hP _
    have hh0 : s₁.heap = s.heap := by rw [B.state]; rfl
    obtain ⟨t, a1, b⟩ := gBody hc hn hlv h r B hml hP s₁ hh0 (Stand.of_body B)
    rcases b with ⟨o, b1, b2, ⟨v, L', M', r', e1, ⟨⟨e2, -⟩, e3⟩, -⟩, -⟩ | ⟨o, b1, b2, b3⟩
    · exact absurd e2 (e3 k)
    · exact ⟨t, o, a1, b1, b2, b3⟩
section gXcalls
variable {l : Launch} {G : gG} {y : MethodName} {cc : ByteArray} {nL : Nat} {ret : Option FieldType} {R : Room} {mc ms : Nat} {Z : Nat → Prop} {post : Option Value → gLy → gMe → Prop} {L L1 : gLy} {M M1 : gMe} {cells slots : Nat} {lv : List (Option Value)} {pc : Nat} {st : List Value}
variable {y1 : MethodName} {cc1 : ByteArray} {nL1 n1 : Nat} {ret1 : Option FieldType} {rm1 : Room} {as : List Value} {mc1 ms1 index : Nat} {Z1 : Nat → Prop} {k : Int64}
/-- a call that throws, up to the thrown exception in the caller's frame -/
theorem gxcall {p : Program} {e : Env} {s : State} {m : MethodId} {args : Array Value} {below : List Frame} {meth : Method} {c : Code} {r : Nat → Nat} {H : Heap} {locs : List Loc} {ls : Array Slot} {b ci N : Nat} {T9 : u_T} {ty : Nat → FieldType} {fs : List (Option Value)} {T : State}
    (hC : gC p s m meth c y cc nL ret) (hW : gW G s) (hR : gR G r L M H) (hls : gH ls nL r lv)
    (hM : gMetX l G y1 cc1 nL1 ret1 rm1 (.ref b :: as) L M Z1 k L1 M1 mc1 ms1) (ok : gOK y1 cc1 nL1 ret1 n1) (hl : Cond.methodLink y.cls index y1 ∈ TB) (hk : Cond.instanceMethod y1 ∈ TB) (hsel : Cond.selects y1.cls y1 y1 ∈ TB) (hL : L b = some (.inr (ci, fs))) (hc : gCl ci y1.cls T9 N ty) (hrm : gRm R rm1 mc1 ms1 nL1) (hn : as.length = n1) (hrest : (st.map fun v => v.category).sum ≤ 8) (d : decode cc pc = .ok (.invokevirtual index, 3)) (hf : cells + mc1 ≤ R.cells ∧ slots + ms1 ≤ R.slots)
    (hT : T.heap = H) (X : Stand p l e R s m args below meth c T locs cells slots) :
    ∃ (q : Addr) (T' : State) (ce : Cell) (r' : Nat → Nat) (L9 : List Loc), Stand p l e R s m args below meth c T' (locs ++ L9) (cells + mc1) (slots + ms1) ∧ (∀ z ∈ L9, G.2.2.1 ≤ z.base) ∧ (∀ a, Z1 a → r' a = r a) ∧ gR G r' L1 M1 T'.heap ∧ (T'.heap[q]? = some ce ∧ ce.vm = .none ∧ s.vm.findClass (gXc k) = some ce.cls) ∧
      Steps p.tables e below (T.setTop (F0 m pc ls ((as.map (gV r)).reverse ++ .ref (r b) :: st.map (gV r)))) ((T'.setTop (F0 m pc ls (st.map (gV r)))).pushFrame (.throwing q)) := by
  have hK : BackT l R p e below s args y1 3 8 (fun A a => A.cells + mc1 ≤ R.cells ∧ A.slots + ms1 ≤ R.slots ∧ va_Pc ((Value.ref b :: as).map (gV r)) (fun U => gW G U ∧ gR G r L M U.heap) a A.U)
      (fun A a x B => ∃ (ce : Cell) (r' : Nat → Nat) (L9 : List Loc), B.locs = A.locs ++ L9 ∧ B.cells = A.cells + mc1 ∧ B.slots = A.slots + ms1 ∧ (∀ z ∈ L9, G.2.2.1 ≤ z.base) ∧ (∀ a, Z1 a → r' a = r a) ∧ gR G r' L1 M1 B.U.heap ∧ (B.U.heap[x]? = some ce ∧ ce.vm = .none ∧ A.U.vm.findClass (gXc k) = some ce.cls)) := by
    refine BackT.of_free (bytes := cc1) (maxL := nL1) (ret := ret1) (E := fun _ _ _ _ L9 k9 n9 => k9 = mc1 ∧ n9 = ms1 ∧ ∀ z ∈ L9, G.2.2.1 ≤ z.base) (hM r) hrm.2.2.1 hrm.2.2.2 ?_ ?_ ?_ ?_ ?_
    · intro m' meth' c' A a X' hp
      have hWA : gW G A.U := gW.moved X'.warmed hW
      refine ⟨atoms_intro fun w hw => gws hW ok.1 w hw _ _ X'.warmed, hWA.t ok.1, hWA.t ok.2.1, ?_, ?_⟩
      · show A.cells + rm1.cells ≤ R.cells
        rw [hrm.1]; exact hp.1
      · show A.slots + rm1.slots ≤ R.slots
        rw [hrm.2.1]; exact hp.2.1
    · intro m' meth' c' A a g mk X' hp
      exact gblind _ _ _ _ hp.2.2
    · intro m' meth' c' A a g mk X' hp
      trivial
    · intro a first o t hq
      obtain ⟨q, k9, ce, L', M', r', locs9, e1, e2, e3, e4, e5, e6, e7, e8, e9⟩ := hq
      exact ⟨locs9, mc1, ms1, ⟨⟨q, e1⟩, e7, e8⟩, rfl, rfl, e9⟩
    · intro m' meth' c' A a g mk v t L9 k9 n9 X' hp hq hF hE
      obtain ⟨q, k8, ce, L', M', r', locs9, e1, ⟨e2, e3, e4⟩, e5, e6, e7, ⟨e8, e9, e10⟩, e11⟩ := hq
      obtain ⟨rfl, rfl, hb⟩ := hE
      cases e1
      have ek : k8 = k := by injection e2 with e2; injection e2
      subst ek; subst e3; subst e4
      exact ⟨ce, r', L9, rfl, rfl, rfl, hb, e5, e7, e8, e9, e10⟩
  obtain ⟨cellB, hcB, hoB, hclB⟩ := va_recv hW.2.2.1 (gP1 (hR.1 b _ hL).1) hc.1 (q0 := 0) rfl
  have hinst : (Cond.instanceMethod y1).before args s = true := hW.t hk
  have hcode : (Cond.code y1 cc1 nL1 ret1).before args s = true := hW.t ok.1
  have hsel' : (Cond.selects y1.cls y1 y1).before args s = true := hW.t hsel
  obtain ⟨mk, methM, hnamed, hmethM, hstM, habM⟩ := Cond.instanceMethod_spec hinst
  obtain ⟨methM', cM, hmethM', -, -, -, -, -, -, hsigM⟩ := Cond.code_spec hnamed hcode
  cases hmethM.symm.trans hmethM'
  obtain ⟨c2, r2, m2, q1, q2, q3, q4, kP, hkP, hkPi⟩ := Cond.selects_spec hsel'
  cases hclB.symm.trans q1
  cases (State.methodFound?_of_named hnamed ok.2.2.1).symm.trans q2
  cases hnamed.symm.trans q3
  have hselP : selectMethod e.platform s.vm cellB.cls mk = .method mk := by rw [Launch.admits_selectMethod X.admits]; exact q4
  obtain ⟨vm1, X1, hstep1⟩ := X.invokevirtual hC.1 hC.2.2.2.2.1 (hW.t hl) hnamed hmethM hstM hkP hkPi ok.2.2.1 (a := r b) (cell := cellB) (by rw [hT]; exact hcB)
    (fun z h => by rw [h] at hoB; cases hoB) hselP hmethM habM hkP hkPi (g := F0 m pc ls ((as.map (gV r)).reverse ++ .ref (r b) :: st.map (gV r))) rfl (argsL := as.map (gV r)) (rest := st.map (gV r)) (by rw [List.length_map, hn]; exact gsig ok.2.2.2 _ hsigM) rfl (by rw [hC.2.1]; exact d)
  obtain ⟨q, B, X2, ⟨ce, r', L9, f1, f2, f3, f4, f5, f6, f7, f8, f9⟩, hsteps⟩ := hK m meth c ⟨T.setVm vm1, locs, cells, slots⟩ (F0 m pc ls (st.map (gV r))) (.invokevirtual index) mk (Value.ref (r b) :: as.map (gV r)).toArray X1 rfl (by rw [hC.2.2.2.1]; exact hls.1.1) (by rw [hC.2.1]; exact d)
    (by
      have h0 : (F0 m pc ls (st.map (gV r))).monitorRoom = 0 := rfl
      rw [h0, gcat]; omega) (X1.named hnamed) ⟨hf.1, hf.2, rfl, gW.moved X1.warmed hW, by show gR G r L M T.heap; rw [hT]; exact hR⟩
  obtain ⟨U', l2, c2, s2⟩ := B
  dsimp only [Pt.U, Pt.locs, Pt.cells, Pt.slots] at X2 f1 f2 f3 f6 f7 f9 hsteps
  subst f1; subst f2; subst f3
  refine ⟨q, U', ce, r', L9, X2, f4, f5, f6, ⟨f7, f8, ?_⟩, ?_⟩
  · rw [X1.warmed.alike.findClass] at f9; exact f9
  · exact hstep1 _ fun acts => by rw [doInvoke_state]; exact hsteps
/-- not caught here -/
theorem V_callVX {st0 : List Value} {b ci N : Nat} {T9 : u_T} {ty : Nat → FieldType} {fs : List (Option Value)} (hM : gMetX l G y1 cc1 nL1 ret1 rm1 (.ref b :: as) L M Z1 k L1 M1 mc1 ms1) (hco : Cond.code y cc nL ret ∈ TB) (ok : gOK y1 cc1 nL1 ret1 n1) (hl : Cond.methodLink y.cls index y1 ∈ TB) (hk : Cond.instanceMethod y1 ∈ TB) (hsel : Cond.selects y1.cls y1 y1 ∈ TB) (hL : L b = some (.inr (ci, fs))) (hc : gCl ci y1.cls T9 N ty) (hrm : gRm R rm1 mc1 ms1 nL1) (hn : as.length = n1) (hs0 : st0 = as.reverse ++ .ref b :: st) (hrest : (st.map fun v => v.category).sum ≤ 8) (d : decode cc pc = .ok (.invokevirtual index, 3)) (hf : cells + mc1 ≤ R.cells ∧ slots + ms1 ≤ R.slots) (hm : cells + mc1 ≤ mc ∧ slots + ms1 ≤ ms) (hZ1 : ∀ a, Z a → Z1 a) (hp : post (some (.long k)) L1 M1) : V l G y cc nL ret R mc ms Z post L M cells slots lv pc st0 := by
  subst hs0
  intro p e s m args below meth c r0 r H locs ls hC hZ hW hR hlo hls T hT X
  rw [grev]
  obtain ⟨q, T', ce, r', L9, X', f1, f2, f3, f4, f5⟩ := gxcall hC hW hR hls hM ok hl hk hsel hL hc hrm hn hrest d hf hT X
  have hout : ∀ x ∈ c.exceptionTable.toList, covers x pc = false := by
    obtain ⟨meth9, c9, h1, h2, -, -, -, -, h7, -⟩ := Cond.code_spec hC.2.2.2.2.2.2.2 (hW.t hco (A := args))
    cases Option.some.inj (h1.symm.trans X.method)
    cases Option.some.inj (h2.symm.trans X.code)
    intro x hx
    rw [Array.isEmpty_iff.mp h7] at hx
    cases hx
  obtain ⟨g1, g2, g3, g4, g5⟩ := X'.leaveThrown q (g := F0 m pc ls (st.map (gV r))) rfl rfl rfl hout hC.2.2.2.2.2.1
  exact ⟨_, f5.trans g1, Or.inr ⟨.threw q, g2, g3, q, k, ce, L1, M1, r', locs ++ L9, rfl, hp, fun a ha => (f2 a (hZ1 a ha)).trans (hZ a ha), gW.moved g4 hW, f3, f4, g4, g5.mono hm.1 hm.2, fun z hz => (List.mem_append.mp hz).elim (hlo z) (f1 z)⟩⟩
end gXcalls

/-! ends by a throw -/
theorem gR.ext {G : gG} {r : Nat → Nat} {L : gLy} {M : gMe} {H H' : Heap} (hR : gR G r L M H) (z : H.size ≤ H'.size) (oq : ∀ q : Nat, q < H.size → H'[q]? = H[q]?) : gR G r L M H' := by
  obtain ⟨h1, h2, h3, h4, h5, h6⟩ := hR
  exact ⟨fun a k ha => ⟨(h1 a k ha).1.kept (oq _ (h1 a k ha).1.lt), (h1 a k ha).2⟩, h2, h3, h4, by omega, fun q hq => by rw [oq q (by omega)]; exact h6 q hq⟩
section gThrow
variable {p : Program} {l : Launch} {e : Env} {R : Room} {s : State} {m : MethodId} {args : Array Value} {below : List Frame} {meth : Method} {c : Code} {locs : List Loc} {cells slots : Nat} {T : State}
/-- the frame as if it began where it stands -/
theorem gRb (X : Stand p l e R s m args below meth c T locs cells slots) (hc : cells + 1 ≤ R.cells) (hs : slots + 6 ≤ R.slots) :
    Stand p l e { R with cells := 1, slots := 6 } ((T.setVm s.vm).setFrames (.invoking m args :: below)) m args below meth c T [] 0 0 := by
  obtain ⟨S0, hS0⟩ : ∃ S0, S0 = T.setVm s.vm := ⟨_, rfl⟩
  have hcur : S0.cur < S0.threads.size := by rw [hS0]; exact State.cur_lt_of_top (s := T.setVm s.vm) X.here.top
  have hF : (S0.setFrames (.invoking m args :: below)).frames = .invoking m args :: below := State.frames_setFrames _ hcur
  rw [← hS0]
  have hvm : S0.vm = s.vm := by rw [hS0]; rfl
  have hhp : S0.heap = T.heap := by rw [hS0]; rfl
  have hus : S0.slotsUsed = T.slotsUsed := by rw [hS0]; rfl
  have hlim : e.platform.stackLimits S0.me = e.platform.stackLimits s.me := by rw [hS0]; exact X.limits
  have hby : S0.me.stackBytes = s.me.stackBytes := by rw [hS0]; exact X.bytes
  have hmet : (S0.setFrames (.invoking m args :: below)).vm.method? m = some meth := by show S0.vm.method? m = _; rw [hvm]; exact X.method
  refine ⟨X.admits, X.cas, X.clock, hF, ?_, ?_, hmet, X.code, X.here, X.tail, ?_, ?_, ?_, ?_⟩
  · have h := X.room
    have hl2 : (S0.setFrames (.invoking m args :: below)).localsInUse = s.localsInUse := (State.localsInUse_invoking hF hmet X.code).trans (State.localsInUse_invoking X.frames X.method X.code).symm
    have q1 := X.heapSize
    have q2 := X.used
    unfold State.hasRoom at h ⊢
    rw [hl2, hF, State.stackLimits_setFrames, State.stackBytes_setFrames, hlim, hby]
    rw [X.frames] at h
    simp only [Bool.and_eq_true, decide_eq_true_eq] at h ⊢
    obtain ⟨⟨⟨⟨g1, g2⟩, g3⟩, g4⟩, g5⟩ := h
    refine ⟨⟨⟨⟨g1, g2⟩, ?_⟩, ?_⟩, ?_⟩
    · show S0.heap.size + 1 ≤ _
      rw [hhp]; omega
    · show S0.slotsUsed + 6 ≤ _
      rw [hus]; omega
    · have hb := X.book
      rw [hS0]; exact hb
  · have h := X.hears
    rw [hS0]; exact h
  · have h := X.warmed
    rw [hS0]; exact h
  · rw [State.stackLimits_setFrames, hlim]; exact X.limits
  · rw [State.stackBytes_setFrames, hby]; exact X.bytes
  · have hsf : (S0.setFrames (.invoking m args :: below)).setFrames S0.frames = S0 := by
      rw [State.setFrames_setFrames]; exact State.setFrames_self (Array.getElem?_eq_getElem hcur)
    have hS1 : T.setVm (S0.setFrames (.invoking m args :: below)).vm = S0 := by rw [hS0]; rfl
    have hd : S0.heap.toList.drop S0.heap.size = [] := List.drop_eq_nil_of_le (Nat.le_of_eq Array.length_toList)
    rw [hS1]
    refine ⟨?_, Nat.le_refl _, Nat.le_refl _, ?_, ?_, fun a c9 h9 => ⟨c9, h9, rfl, rfl, fun _ _ => rfl⟩⟩
    · rw [hsf]
    · show S0.slotsUsed = S0.slotsUsed + ((S0.heap.toList.drop S0.heap.size).map (·.slots.size)).sum
      rw [hd]; rfl
    · show ((S0.heap.toList.drop S0.heap.size).map (·.slots.size)).sum ≤ 0
      rw [hd]; exact Nat.le_refl _
/-- the words of a throw that speak of the heap, or are no good words -/
def exW : List Cond := [.isRef (.static Bundle.tN "UNASSIGNED_STACK" Bundle.steD), .isRef (.static Bundle.tN "SUPPRESSED_SENTINEL" Bundle.listD), .laysStatic Bundle.tN "UNASSIGNED_STACK" Bundle.steD, .laysStatic Bundle.tN "SUPPRESSED_SENTINEL" Bundle.listD, .declares (Bundle.initS "java/lang/RuntimeException"), .declares (Bundle.initS "java/lang/Exception"), .declares (Bundle.initS Bundle.tN)]
/-- what is known of every state: its tables are the law's, its heap below the base is the law's -/
def gHe (G : gG) (P : State → Prop) : Prop := ∀ U U' : State, G.2.2.2.2.2 U → U.WarmedH U'.vm → G.2.2.1 ≤ U'.heap.size → (∀ q : Nat, q < G.2.2.1 → U'.heap[q]? = G.2.2.2.1[q]?) → P U'
end gThrow
theorem nb_face (w : Cond) (hw : w ∈ NB) : w.onTables = true := by
  have hn := (List.mem_filter.mp hw).2
  cases w <;> first | rfl | (exact absurd hn (by simp [nestWord]))

section gThrow2
variable {l : Launch} {G : gG} {y : MethodName} {cc : ByteArray} {nL : Nat} {ret : Option FieldType} {R : Room} {mc ms : Nat} {Z : Nat → Prop} {post : Option Value → gLy → gMe → Prop} {L : gLy} {M : gMe} {cells slots : Nat} {lv : List (Option Value)} {pc : Nat} {st : List Value}
theorem V_throw (k : Int64) {ik is ic : Nat} {text : String} {names : List String} (hl : l.stackTraces = false) (hco : Cond.code y cc nL ret ∈ TB) (hcls : Bundle.fit (gXc k) = true) (hnames : ∀ n ∈ names, Bundle.fit n = true) (hcl : Cond.classLink y.cls ik (gXc k) ∈ TB) (hini : Cond.initialized (gXc k) ∈ TB)
    (hat : ∀ w ∈ Bundle.ownAtoms y.cls ic (gXc k) names, w ∈ TB ∨ w ∈ NB ∨ w ∈ exW) (hE : ∀ w ∈ exW, ∀ a, gHe G (fun U => w.before a U = true)) (hstr : gHe G (fun U => ∃ sa, vk_R y.cls is text sa U))
    (hfr : names.length + 3 < R.frames) (hlc : (st.map fun v => v.category).sum + (13 * (names.length + 1) + 43) ≤ R.locals) (hc : cells + 1 ≤ mc) (hs : slots + 6 ≤ ms) (hmc : mc ≤ R.cells) (hms : ms ≤ R.slots)
    (d0 : decode cc pc = .ok (.new ik, 3)) (d3 : decode cc (pc + 3) = .ok (.dup, 1)) (d4 : decode cc (pc + 4) = .ok (.ldc is, 2)) (d6 : decode cc (pc + 6) = .ok (.invokespecial ic, 3)) (d9 : decode cc (pc + 9) = .ok (.athrow, 1)) (hp : post (some (.long k)) L M) :
    V l G y cc nL ret R mc ms Z post L M cells slots lv pc st := by
  intro p e s m args below meth c r0 r H locs ls hC hZ hW hR hlo hls T hT X
  have htr : e.platform.stackTraces = false := by
    have h1 : e.platform.stackTraces = l.stackTraces := by rw [X.admits.platform]
    rw [h1]; exact hl
  have hout : ∀ x ∈ c.exceptionTable.toList, covers x (pc + 9) = false := by
    obtain ⟨meth9, c9, h1, h2, -, -, -, -, h7, -⟩ := Cond.code_spec hC.2.2.2.2.2.2.2 (hW.t hco (A := args))
    cases Option.some.inj (h1.symm.trans X.method)
    cases Option.some.inj (h2.symm.trans X.code)
    intro x hx
    rw [Array.isEmpty_iff.mp h7] at hx
    cases hx
  have Y := gRb X (by omega) (by omega)
  obtain ⟨s', hs'⟩ : ∃ z, z = (T.setVm s.vm).setFrames (.invoking m args :: below) := ⟨_, rfl⟩
  rw [← hs'] at Y
  have hvm : s'.vm = s.vm := by rw [hs']; rfl
  have hhp : s'.heap = H := by rw [hs']; exact hT
  have hW0 : s.WarmedH s'.vm := by rw [hvm]; exact State.WarmedH.refl s
  have hW' : gW G s' := gW.moved hW0 hW
  have hbel : ∀ q : Nat, q < G.2.2.1 → s'.heap[q]? = G.2.2.2.1[q]? := fun q hq => by rw [hhp]; exact hR.2.2.2.2.2 q hq
  have hsz : G.2.2.1 ≤ s'.heap.size := by rw [hhp]; exact hR.2.2.2.2.1
  have h : ∀ w ∈ Bundle.ownAtoms y.cls ic (gXc k) names, w.before args s' = true := fun w hw => by
    rcases hat w hw with h | h | h
    · exact hW'.t h
    · exact va_Nw.use (nb_face w h) (hW'.2.1 w h)
    · exact hE w h args s s' hW.2.2.2.1 hW0 hsz hbel
  obtain ⟨sa, hsa⟩ := hstr s s' hW.2.2.2.1 hW0 hsz hbel
  have hown : s'.vm.findClass y.cls = some m.cls := by rw [hvm]; exact hC.2.2.2.2.1
  have hins : (Cond.instantiable (gXc k) 6).before args s' = true := h _ (by simp [Bundle.ownAtoms])
  have hcc : c.code = cc := hC.2.1
  obtain ⟨vm1, cX, kX, hfX, hkX, -, -, X1, st1⟩ := Y.newCold hC.1 (own := y.cls) (C := gXc k) (index := ik) (n := 6) hown (hW'.t hcl) hins (hW'.t hini)
    (g := F0 m pc ls (st.map (gV r))) rfl (by rw [hcc]; exact d0) (Nat.le_refl _) (Nat.le_refl _)
  obtain ⟨T1, hT1⟩ : ∃ z, z = (T.setVm vm1).pushCell { cls := cX, slots := kX.instanceTypes.map defaultValue, vm := .none } := ⟨_, rfl⟩
  rw [← hT1] at X1 st1
  have hcell : T1.heap[T.heap.size]? = some (freshCell cX kX) := by rw [hT1]; exact State.heap_pushCell_size _ _
  have hsize : ls.size = c.maxLocals := by rw [hC.2.2.2.1]; exact hls.1.1
  obtain ⟨U, hsteps, hrun, hend, hWU, hsame, ce, hce, hO⟩ := X1.ctorThrowS hC.1 htr (own := y.cls) (cls := gXc k) (names := names) (ic := ic) hown hcls hnames h (fun x hx => nomatch hx) hfX hkX hcell (by rw [hhp, hT]; exact Nat.le_refl _) (msg := .ref sa) rfl
    (g := F0 m (pc + 6) ls (.ref sa :: .ref T.heap.size :: .ref T.heap.size :: st.map (gV r))) rfl hsize rfl rfl (rest := st.map (gV r)) rfl
    (by rw [hcc]; exact d6) (by rw [hcc]; exact d9) hout hfr (by
      have h0 : (F0 m (pc + 6) ls (.ref sa :: .ref T.heap.size :: .ref T.heap.size :: st.map (gV r))).monitorRoom = 0 := rfl
      rw [h0, List.map_cons, List.sum_cons, gcat]
      show 2 * 0 + (1 + _) + _ ≤ R.locals
      omega) hC.2.2.2.2.2.1
  have hold : ∀ q : Nat, q < H.size → U.heap[q]? = H[q]? := fun q hq => by
    have h1 := State.sameButNew.kept_nil hsame (a := q) (c := H[q]) (by rw [hhp]; exact Array.getElem?_eq_getElem hq)
    rw [Array.getElem?_eq_getElem hq]; exact h1
  have hbig : H.size ≤ U.heap.size := by
    have h1 := hsame.2.1
    rw [hhp] at h1; exact h1
  have hWs : s.WarmedH U.vm := State.WarmedH.trans hW0 hWU
  have hall : s.sameButNew ({ U with vm := s.vm } : State) locs mc ms := by
    have h1 : ((T.setVm s.vm).setFrames (.invoking m args :: below)).sameButNew ({ U with vm := s.vm } : State) [] (0 + 1) (0 + 6) := by
      rw [hvm] at hsame; rw [← hs']; exact hsame
    have h2 := X.same.trans (State.sameButNew.of_setFrames h1)
    rw [List.append_nil] at h2
    exact h2.mono (by omega) (by omega)
  refine ⟨U, ?_, Or.inr ⟨.threw T.heap.size, hrun, hend, T.heap.size, k, ce, L, M, r, locs, rfl, hp, hZ, gW.moved hWs hW, hR.ext hbig hold, ⟨hce, hO.vm, by rw [← hvm]; exact hO.cls⟩, hWs, hall, hlo⟩⟩
  refine st1 _ ?_
  have d3' : decode c.code (pc + 3) = .ok (.dup, 1) := by rw [hcc]; exact d3
  have d4' : decode c.code (pc + 4) = .ok (.ldc is, 2) := by rw [hcc]; exact d4
  have hexec := hC.1
  show Steps p.tables e below (T1.setTop (F0 m (pc + 3) ls (.ref T.heap.size :: st.map (gV r)))) _
  jvm_step X1.here [X1.here.top, hexec, d3', Value.category]
  exact X1.ldcString hexec (own := y.cls) (text := text) (index := is) (a := sa) hown hsa.1 hsa.2 (g := F0 m (pc + 4) ls (.ref T.heap.size :: .ref T.heap.size :: st.map (gV r))) rfl d4' _ hsteps
end gThrow2

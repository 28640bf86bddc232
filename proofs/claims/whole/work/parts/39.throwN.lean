/-! throw new NoSuchElementException -/
section gThrow3
variable {l : Launch} {G : gG} {y : MethodName} {cc : ByteArray} {nL : Nat} {ret : Option FieldType} {R : Room} {mc ms : Nat} {Z : Nat → Prop} {post : Option Value → gLy → gMe → Prop} {L : gLy} {M : gMe} {cells slots : Nat} {lv : List (Option Value)} {pc : Nat} {st : List Value}
def exR : ByteArray := ⟨#[0x2a, 0x2b, 0xb7, 0x00, 0x0d, 0xb1]⟩
theorem V_throwN (k : Int64) {ik is ic : Nat} {text : String} {names : List String} (hl : l.stackTraces = false) (hco : Cond.code y cc nL ret ∈ TB) (hcls : Bundle.fit (gXc k) = true) (hnames : ∀ n ∈ names, Bundle.fit n = true) (hcl : Cond.classLink y.cls ik (gXc k) ∈ TB) (hini : Cond.initialized (gXc k) ∈ TB)
    (hat : ∀ w ∈ Bundle.ownAtomsX y.cls ic (gXc k) 13 exR names, w ∈ TB ∨ w ∈ NB ∨ w ∈ exW) (hE : ∀ w ∈ exW, ∀ a, gHe G (fun U => w.before a U = true)) (hstr : gHe G (fun U => ∃ sa, vk_R y.cls is text sa U))
    (hfr : names.length + 3 < R.frames) (hlc : (st.map fun v => v.category).sum + (13 * (names.length + 1) + 43) ≤ R.locals) (hc : cells + 1 ≤ mc) (hs : slots + 6 ≤ ms) (hmc : mc ≤ R.cells) (hms : ms ≤ R.slots)
    (d0 : decode cc pc = .ok (.new ik, 3)) (d3 : decode cc (pc + 3) = .ok (.dup, 1)) (d4 : decode cc (pc + 4) = .ok (.ldc is, 2)) (d6 : decode cc (pc + 6) = .ok (.invokespecial ic, 3)) (d9 : decode cc (pc + 9) = .ok (.athrow, 1)) (hp : post (some (.long k)) L M) :
    V l G y cc nL ret R mc ms Z post L M cells slots lv pc st := by
  intro p e s m args below meth c r0 r H locs ls hC hZ hW hR hlo hls T hT X
  have htr : e.platform.stackTraces = false := by
    have h1 : e.platform.stackTraces = l.stackTraces := by rw [X.admits.platform]
    rw [h1]; exact hl
  have hout : ∀ x ∈ c.exceptionTable.toList, covers x (pc + 9) = false := by
    obtain ⟨meth9, c9, h1, h2, -, -, -, -, h7, -⟩ := Cond.code_spec hC.2.2.2.2.2.2.2 (hW.t hco (A := args))
    cases Option.some.inj (h1.symm.trans X.method)
    cases Option.some.inj (h2.symm.trans X.code)
    intro x hx
    rw [Array.isEmpty_iff.mp h7] at hx
    cases hx
  have Y := gRb X (by omega) (by omega)
  obtain ⟨s', hs'⟩ : ∃ z, z = (T.setVm s.vm).setFrames (.invoking m args :: below) := ⟨_, rfl⟩
  rw [← hs'] at Y
  have hvm : s'.vm = s.vm := by rw [hs']; rfl
  have hhp : s'.heap = H := by rw [hs']; exact hT
  have hW0 : s.WarmedH s'.vm := by rw [hvm]; exact State.WarmedH.refl s
  have hW' : gW G s' := gW.moved hW0 hW
  have hbel : ∀ q : Nat, q < G.2.2.1 → s'.heap[q]? = G.2.2.2.1[q]? := fun q hq => by rw [hhp]; exact hR.2.2.2.2.2 q hq
  have hsz : G.2.2.1 ≤ s'.heap.size := by rw [hhp]; exact hR.2.2.2.2.1
  have h : ∀ w ∈ Bundle.ownAtomsX y.cls ic (gXc k) 13 exR names, w.before args s' = true := fun w hw => by
    rcases hat w hw with h | h | h
    · exact hW'.t h
    · exact va_Nw.use (nb_face w h) (hW'.2.1 w h)
    · exact hE w h args s s' hW.2.2.2.1 hW0 hsz hbel
  obtain ⟨sa, hsa⟩ := hstr s s' hW.2.2.2.1 hW0 hsz hbel
  have hown : s'.vm.findClass y.cls = some m.cls := by rw [hvm]; exact hC.2.2.2.2.1
  have hins : (Cond.instantiable (gXc k) 6).before args s' = true := h _ (by simp [Bundle.ownAtomsX])
  have hcc : c.code = cc := hC.2.1
  obtain ⟨vm1, cX, kX, hfX, hkX, -, -, X1, st1⟩ := Y.newCold hC.1 (own := y.cls) (C := gXc k) (index := ik) (n := 6) hown (hW'.t hcl) hins (hW'.t hini)
    (g := F0 m pc ls (st.map (gV r))) rfl (by rw [hcc]; exact d0) (Nat.le_refl _) (Nat.le_refl _)
  obtain ⟨T1, hT1⟩ : ∃ z, z = (T.setVm vm1).pushCell { cls := cX, slots := kX.instanceTypes.map defaultValue, vm := .none } := ⟨_, rfl⟩
  rw [← hT1] at X1 st1
  have hcell : T1.heap[T.heap.size]? = some (freshCell cX kX) := by rw [hT1]; exact State.heap_pushCell_size _ _
  have hsize : ls.size = c.maxLocals := by rw [hC.2.2.2.1]; exact hls.1.1
  obtain ⟨U, hsteps, hrun, hend, hWU, hsame, ce, hce, hcv, hcn⟩ := gCtorN X1 hC.1 htr (own := y.cls) (cls := gXc k) (names := names) (ic := ic) (ix := 13) (rx := exR) (by decide +kernel) (by decide +kernel) (by decide +kernel) (by decide +kernel) hown hcls hnames h hfX hkX hcell (by rw [hhp, hT]; exact Nat.le_refl _) (sa := sa) (pc := pc + 6) (ls := ls) (rest := st.map (gV r)) hsize
    (by rw [hcc]; exact d6) (by rw [hcc]; exact d9) hout hfr (by rw [gcat]; exact hlc) hC.2.2.2.2.2.1
  have hold : ∀ q : Nat, q < H.size → U.heap[q]? = H[q]? := fun q hq => by
    have h1 := State.sameButNew.kept_nil hsame (a := q) (c := H[q]) (by rw [hhp]; exact Array.getElem?_eq_getElem hq)
    rw [Array.getElem?_eq_getElem hq]; exact h1
  have hbig : H.size ≤ U.heap.size := by
    have h1 := hsame.2.1
    rw [hhp] at h1; exact h1
  have hWs : s.WarmedH U.vm := State.WarmedH.trans hW0 hWU
  have hall : s.sameButNew ({ U with vm := s.vm } : State) locs mc ms := by
    have h1 : ((T.setVm s.vm).setFrames (.invoking m args :: below)).sameButNew ({ U with vm := s.vm } : State) [] (0 + 1) (0 + 6) := by
      rw [hvm] at hsame; rw [← hs']; exact hsame
    have h2 := X.same.trans (State.sameButNew.of_setFrames h1)
    rw [List.append_nil] at h2
    exact h2.mono (by omega) (by omega)
  refine ⟨U, ?_, Or.inr ⟨.threw T.heap.size, hrun, hend, T.heap.size, k, ce, L, M, r, locs, rfl, hp, hZ, gW.moved hWs hW, hR.ext hbig hold, ⟨hce, hcv, by rw [← hvm]; exact hcn⟩, hWs, hall, hlo⟩⟩
  refine st1 _ ?_
  have d3' : decode c.code (pc + 3) = .ok (.dup, 1) := by rw [hcc]; exact d3
  have d4' : decode c.code (pc + 4) = .ok (.ldc is, 2) := by rw [hcc]; exact d4
  have hexec := hC.1
  show Steps p.tables e below (T1.setTop (F0 m (pc + 3) ls (.ref T.heap.size :: st.map (gV r)))) _
  jvm_step X1.here [X1.here.top, hexec, d3', Value.category]
  exact X1.ldcString hexec (own := y.cls) (text := text) (index := is) (a := sa) hown hsa.1 hsa.2 (g := F0 m (pc + 4) ls (.ref T.heap.size :: .ref T.heap.size :: st.map (gV r))) rfl d4' _ hsteps
end gThrow3
theorem ex121 : (Bundle.ownAtomsX "ProofGate" 121 (gXc 3) 13 exR exNm).all exOk = true := by decide +kernel
theorem exAllN {o : String} {i : Nat} {X : String} (h : (Bundle.ownAtomsX o i X 13 exR exNm).all exOk = true) : ∀ w ∈ Bundle.ownAtomsX o i X 13 exR exNm, w ∈ TB ∨ w ∈ NB ∨ w ∈ exW := fun w hw => exOk_of (List.all_eq_true.mp h w hw)

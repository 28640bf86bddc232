/-- a method of ours, as its callers need it -/
def gOK (y1 : MethodName) (cc1 : ByteArray) (nL1 : Nat) (ret1 : Option FieldType) (n1 : Nat) : Prop := Cond.code y1 cc1 nL1 ret1 ∈ TB ∧ Cond.initialized y1.cls ∈ TB ∧ (y1.cls ≠ "java/lang/invoke/MethodHandle" ∧ y1.cls ≠ "java/lang/invoke/VarHandle") ∧ (parseMethodDescriptor y1.desc).map (fun d => d.parameters.length) = some n1
def gMl (own : String) (index : Nat) (y1 : MethodName) : Prop := Cond.methodLink own index y1 ∈ TB ∨ ∃ host, Cond.methodLinkNest own index y1 host ∈ NB
def gRm (R rm1 : Room) (mc1 ms1 nL1 : Nat) : Prop := rm1.cells = mc1 ∧ rm1.slots = ms1 ∧ rm1.frames + 1 ≤ R.frames ∧ 8 + (nL1 + 11) + rm1.locals ≤ R.locals
theorem gblind {G : gG} {r : Nat → Nat} {L : gLy} {M : gMe} {av : List Value} : FrameBlind (va_Pc av (fun U => gW G U ∧ gR G r L M U.heap)) := fun a U g mk q => ⟨q.1, gW.moved (s := U) (U := U.calling g mk a) (State.WarmedH.refl U) q.2.1, q.2.2⟩
theorem gws {G : gG} {s : State} (hW : gW G s) {w0 : Cond} (h : w0 ∈ TB) : ∀ w ∈ [w0], ∀ (a' : Array Value) (U : State), s.WarmedH U.vm → w.before a' U = true := by
  intro w hw a' U hU
  rw [List.mem_singleton] at hw
  subst hw
  exact word_at (args := #[]) hU (good_of_word (TB_good _ h)) (hW.1 _ h)
theorem gsig {y1 : MethodName} {n1 : Nat} (h : (parseMethodDescriptor y1.desc).map (fun d => d.parameters.length) = some n1) : ∀ sig, parseMethodDescriptor y1.desc = some sig → n1 = sig.parameters.length := by
  intro sig hs
  rw [hs] at h
  exact (Option.some.inj h).symm
theorem gcat (r : Nat → Nat) (st : List Value) : (st.map (gV r)).map (fun v => v.category) = st.map (fun v => v.category) := by
  rw [List.map_map]
  exact List.map_congr_left (fun v _ => gV_cat r v)
theorem grev (r : Nat → Nat) (as st : List Value) : (as.reverse ++ st).map (gV r) = (as.map (gV r)).reverse ++ st.map (gV r) := by
  rw [List.map_append, List.map_reverse]
section gCalls
variable {l : Launch} {G : gG} {y : MethodName} {cc : ByteArray} {nL : Nat} {ret : Option FieldType} {R : Room} {mc ms : Nat} {Z : Nat → Prop} {post : Option Value → gLy → gMe → Prop} {L : gLy} {M : gMe} {cells slots : Nat} {lv : List (Option Value)} {pc : Nat} {st : List Value}
variable {y1 : MethodName} {cc1 : ByteArray} {nL1 n1 : Nat} {ret1 : Option FieldType} {rm1 : Room} {as : List Value} {mc1 ms1 index : Nat} {Z1 : Nat → Prop} {post1 : Option Value → gLy → gMe → Prop}
theorem gcall {p : Program} {e : Env} {s : State} {m : MethodId} {args : Array Value} {below : List Frame} {meth : Method} {c : Code} {r0 r : Nat → Nat} {H : Heap} {locs : List Loc} {ls : Array Slot} {a1 : Array Value} {st0 : List Value} (hC : gC p s m meth c y cc nL ret) (hZ : ∀ a, Z a → r a = r0 a) (hW : gW G s) (hlo : ∀ q ∈ locs, G.2.2.1 ≤ q.base) (hls : gH ls nL r lv)
    (hr : va_Run p l e R s m args below meth c H locs cells slots mc1 ms1 (F0 m pc ls st0) (st.map (gV r)) (gQ G r Z1 post1 a1) (fun q => G.2.2.1 ≤ q)) (hZ1 : ∀ a, Z a → Z1 a) (hcl : gcl Z1 lv st)
    (kk : ∀ v L' M', post1 v L' M' → V l G y cc nL ret R mc ms Z post L' M' (cells + mc1) (slots + ms1) lv (pc + 3) (v.toList ++ st)) : W p l e R s m args below meth c H locs cells slots (gMQ G below r0 Z post args s mc ms) (F0 m pc ls st0) := by
  intro T hT X
  obtain ⟨v, st₀, t, T', L9, h0, X', hL, e1, e2, ⟨v', L', M', r', hv, hp, hz, hw, hR'⟩, stp⟩ := hr T hT X
  cases hv
  have hst : (v'.toList ++ st).map (gV r') = (v'.map (gV r')).toList ++ st.map (gV r) := by
    rw [List.map_append, gst_re (r := r) (r' := r') (fun a ha => hz a (hcl.2 a ha))]
    cases v' <;> rfl
  have h := kk v' L' M' hp.1 p e s m args below meth c r0 r' T'.heap (locs ++ L9) ls hC (fun a ha => (hz a (hZ1 a ha)).trans (hZ a ha)) hW (by rw [e1]; exact hR') (by
    intro q hq
    rcases List.mem_append.mp hq with hq | hq
    · exact hlo q hq
    · exact hL q hq) (hls.re (fun a ha => hz a (hcl.1 a ha)))
  rw [hst] at h
  obtain ⟨t2, a2, b2⟩ := h T' rfl X'
  exact ⟨t2, stp t2 a2, b2⟩
theorem V_callS (q : Nat) {st0 : List Value} (hM : gMet l G y1 cc1 nL1 ret1 rm1 as L M Z1 post1 mc1 ms1) (ok : gOK y1 cc1 nL1 ret1 n1) (hl : gMl y.cls index y1) (hk : Cond.static y1 ∈ TB) (hrm : gRm R rm1 mc1 ms1 nL1) (hn : as.length = n1) (hs0 : st0 = as.reverse ++ st) (hrest : (st.map fun v => v.category).sum ≤ 8) (d : decode cc pc = .ok (.invokestatic index, 3)) (hf : cells + mc1 ≤ R.cells ∧ slots + ms1 ≤ R.slots) (hZ1 : ∀ a, Z a → Z1 a) (hcl : gcl Z1 lv st) (hq : pc + 3 = q)
    (kk : ∀ v L' M', post1 v L' M' → V l G y cc nL ret R mc ms Z post L' M' (cells + mc1) (slots + ms1) lv q (v.toList ++ st)) : V l G y cc nL ret R mc ms Z post L M cells slots lv pc st0 := by
  subst hq
  subst hs0
  intro p e s m args below meth c r0 r H locs ls hC hZ hW hR hlo hls
  rw [grev]
  have hp : PreS s H (va_Pc (as.map (gV r)) (fun U => gW G U ∧ gR G r L M U.heap)) (as.map (gV r)) := ⟨gblind, fun U hU hWU => ⟨rfl, gW.moved hWU hW, by rw [hU]; exact hR⟩⟩
  have S : CallFix p m c cc nL s args TB y.cls := ⟨hC.1, hC.2.1, hC.2.2.2.1, hC.2.2.2.2.1, fun w hw => hW.t hw⟩
  have hrm8 : 2 * (F0 m pc ls ((as.map (gV r)).reverse ++ st.map (gV r))).monitorRoom + ((st.map (gV r)).map fun v => v.category).sum ≤ 8 := lv_room (by rw [gcat]; exact hrest)
  refine gcall hC hZ hW hlo hls ?_ hZ1 hcl kk (a1 := (as.map (gV r)).toArray)
  rcases hl with hl | ⟨host, hl⟩
  · exact va_runS S (hM r) ⟨⟨hrm.1, hrm.2.1, hrm.2.2.1, hrm.2.2.2, gws hW ok.1, List.mem_singleton.mpr rfl, hW.t ok.1, hW.t ok.2.1, ok.2.2.1, gsig ok.2.2.2, hW.t hl⟩, hW.t hk⟩ hp rfl (by rw [List.length_map]; exact hn) hls.1.1 rfl hrm8 d hf
  · exact va_runSN S (hM r) ⟨⟨⟨hrm.1, hrm.2.1, hrm.2.2.1, hrm.2.2.2, gws hW ok.1, List.mem_singleton.mpr rfl⟩, hW.t ok.1, hW.t ok.2.1, ok.2.2.1, gsig ok.2.2.2, va_Nw.use rfl (hW.2.1 _ hl)⟩, hW.t hk, trivial⟩ hp rfl (by rw [List.length_map]; exact hn) hls.1.1 rfl hrm8 d hf
theorem V_callI (q : Nat) {st0 : List Value} {b : Nat} (hM : gMet l G y1 cc1 nL1 none rm1 (.ref b :: as) L M Z1 post1 mc1 ms1) (ok : gOK y1 cc1 nL1 none n1) (hl : gMl y.cls index y1) (hk : Cond.instanceMethod y1 ∈ TB) (hnm : y1.name = "<init>") (hrm : gRm R rm1 mc1 ms1 nL1) (hn : as.length = n1) (hs0 : st0 = as.reverse ++ .ref b :: st) (hrest : (st.map fun v => v.category).sum ≤ 8) (d : decode cc pc = .ok (.invokespecial index, 3)) (hf : cells + mc1 ≤ R.cells ∧ slots + ms1 ≤ R.slots) (hZ1 : ∀ a, Z a → Z1 a) (hcl : gcl Z1 lv st) (hq : pc + 3 = q)
    (kk : ∀ v L' M', post1 v L' M' → V l G y cc nL ret R mc ms Z post L' M' (cells + mc1) (slots + ms1) lv q (v.toList ++ st)) : V l G y cc nL ret R mc ms Z post L M cells slots lv pc st0 := by
  subst hq
  subst hs0
  intro p e s m args below meth c r0 r H locs ls hC hZ hW hR hlo hls
  rw [grev]
  have hp : PreS s H (va_Pc ((Value.ref b :: as).map (gV r)) (fun U => gW G U ∧ gR G r L M U.heap)) (.ref (r b) :: as.map (gV r)) := ⟨gblind, fun U hU hWU => ⟨rfl, gW.moved hWU hW, by rw [hU]; exact hR⟩⟩
  have S : CallFix p m c cc nL s args TB y.cls := ⟨hC.1, hC.2.1, hC.2.2.2.1, hC.2.2.2.2.1, fun w hw => hW.t hw⟩
  have hrm8 : 2 * (F0 m pc ls ((as.map (gV r)).reverse ++ .ref (r b) :: st.map (gV r))).monitorRoom + ((st.map (gV r)).map fun v => v.category).sum ≤ 8 := lv_room (by rw [gcat]; exact hrest)
  refine gcall hC hZ hW hlo hls ?_ hZ1 hcl kk (a1 := (Value.ref (r b) :: as.map (gV r)).toArray)
  rcases hl with hl | ⟨host, hl⟩
  · exact va_runI S (hM r) ⟨⟨hrm.1, hrm.2.1, hrm.2.2.1, hrm.2.2.2, gws hW ok.1, List.mem_singleton.mpr rfl, hW.t ok.1, hW.t ok.2.1, ok.2.2.1, gsig ok.2.2.2, hW.t hl⟩, hnm, hW.t hk⟩ hp rfl (by rw [List.length_map]; exact hn) hls.1.1 rfl hrm8 d hf
  · exact va_runIN S (hM r) ⟨⟨⟨hrm.1, hrm.2.1, hrm.2.2.1, hrm.2.2.2, gws hW ok.1, List.mem_singleton.mpr rfl⟩, hW.t ok.1, hW.t ok.2.1, ok.2.2.1, gsig ok.2.2.2, va_Nw.use rfl (hW.2.1 _ hl)⟩, hnm, hW.t hk⟩ hp rfl (by rw [List.length_map]; exact hn) hls.1.1 rfl hrm8 d hf
theorem V_callV (q : Nat) {st0 : List Value} {b ci N : Nat} {T : u_T} {ty : Nat → FieldType} {fs : List (Option Value)} (hM : gMet l G y1 cc1 nL1 ret1 rm1 (.ref b :: as) L M Z1 post1 mc1 ms1) (ok : gOK y1 cc1 nL1 ret1 n1) (hl : gMl y.cls index y1) (hk : Cond.instanceMethod y1 ∈ TB) (hsel : Cond.selects y1.cls y1 y1 ∈ TB) (hL : L b = some (.inr (ci, fs))) (hc : gCl ci y1.cls T N ty) (hrm : gRm R rm1 mc1 ms1 nL1) (hn : as.length = n1) (hs0 : st0 = as.reverse ++ .ref b :: st) (hrest : (st.map fun v => v.category).sum ≤ 8) (d : decode cc pc = .ok (.invokevirtual index, 3)) (hf : cells + mc1 ≤ R.cells ∧ slots + ms1 ≤ R.slots) (hZ1 : ∀ a, Z a → Z1 a) (hcl : gcl Z1 lv st) (hq : pc + 3 = q)
    (kk : ∀ v L' M', post1 v L' M' → V l G y cc nL ret R mc ms Z post L' M' (cells + mc1) (slots + ms1) lv q (v.toList ++ st)) : V l G y cc nL ret R mc ms Z post L M cells slots lv pc st0 := by
  subst hq
  subst hs0
  intro p e s m args below meth c r0 r H locs ls hC hZ hW hR hlo hls
  rw [grev]
  have hp : PreV s H y1.cls (r b) (va_Pc ((Value.ref b :: as).map (gV r)) (fun U => gW G U ∧ gR G r L M U.heap)) (as.map (gV r)) := ⟨gblind, va_recv hW.2.2.1 (gP1 (hR.1 b _ hL).1) hc.1 (q0 := 0) rfl, fun U hU hWU => ⟨rfl, gW.moved hWU hW, by rw [hU]; exact hR⟩⟩
  have S : CallFix p m c cc nL s args TB y.cls := ⟨hC.1, hC.2.1, hC.2.2.2.1, hC.2.2.2.2.1, fun w hw => hW.t hw⟩
  have hrm8 : 2 * (F0 m pc ls ((as.map (gV r)).reverse ++ .ref (r b) :: st.map (gV r))).monitorRoom + ((st.map (gV r)).map fun v => v.category).sum ≤ 8 := lv_room (by rw [gcat]; exact hrest)
  refine gcall hC hZ hW hlo hls ?_ hZ1 hcl kk (a1 := (Value.ref (r b) :: as.map (gV r)).toArray)
  rcases hl with hl | ⟨host, hl⟩
  · exact va_runV S (hM r) ⟨⟨hrm.1, hrm.2.1, hrm.2.2.1, hrm.2.2.2, gws hW ok.1, List.mem_singleton.mpr rfl, hW.t ok.1, hW.t ok.2.1, ok.2.2.1, gsig ok.2.2.2, hW.t hl⟩, hW.t hk, hW.t hsel⟩ hp rfl (by rw [List.length_map]; exact hn) hls.1.1 rfl hrm8 d hf
  · exact va_runVN S (hM r) ⟨⟨⟨hrm.1, hrm.2.1, hrm.2.2.1, hrm.2.2.2, gws hW ok.1, List.mem_singleton.mpr rfl⟩, hW.t ok.1, hW.t ok.2.1, ok.2.2.1, gsig ok.2.2.2, va_Nw.use rfl (hW.2.1 _ hl)⟩, hW.t hk, hW.t hsel⟩ hp rfl (by rw [List.length_map]; exact hn) hls.1.1 rfl hrm8 d hf
/-- a contract for a memory that is the same -/
theorem gMet.weak {post2 : Option Value → gLy → gMe → Prop} (h : gMet l G y1 cc1 nL1 ret1 rm1 as L M Z1 post1 mc1 ms1) (hp : ∀ v L' M', post1 v L' M' → post2 v L' M') : gMet l G y1 cc1 nL1 ret1 rm1 as L M Z1 post2 mc1 ms1 := by
  intro r p e ha hc hk s m args below h1 h2 h3 h4
  obtain ⟨k, o, g1, g2, g3, g4, L9, g5, g6⟩ := h r p e ha hc hk s m args below h1 h2 h3 h4
  obtain ⟨v, L', M', r', q1, q2, q3⟩ := g4
  exact ⟨k, o, g1, g2, g3, ⟨v, L', M', r', q1, ⟨hp v L' M' q2.1, q2.2⟩, q3⟩, L9, g5, g6⟩
end gCalls
section gNew
variable {l : Launch} {G : gG} {y : MethodName} {cc : ByteArray} {nL : Nat} {ret : Option FieldType} {R : Room} {mc ms : Nat} {Z : Nat → Prop} {post : Option Value → gLy → gMe → Prop} {L : gLy} {M : gMe} {cells slots : Nat} {lv : List (Option Value)} {pc : Nat} {st : List Value}
theorem V_new (q a : Nat) {ci index N : Nat} {C : String} {T : u_T} {ty : Nat → FieldType} {fs : List (Option Value)} (hc : gCl ci C T N ty) (hcl : Cond.classLink y.cls index C ∈ TB) (hinst : Cond.instantiable C N ∈ TB) (hini : Cond.initialized C ∈ TB) (hfs : ∀ j, j < N → ∀ r, defaultValue (ty j) = vp_V (gF r (fun _ => 0) fs) j) (hL : L a = none) (h2 : 2 ≤ a) (hZa : ¬ Z a) (hno : gcl (fun x => x ≠ a) lv st) (hnr : ∀ b, some (Value.ref b) ∉ fs) (hcells : cells + 1 ≤ R.cells) (hslots : slots + N ≤ R.slots) (d : decode cc pc = .ok (.new index, 3)) (hq : pc + 3 = q)
    (kk : V l G y cc nL ret R mc ms Z post (va_up L a (some (.inr (ci, fs)))) (va_up M a (fun _ => 0)) (cells + 1) (slots + N) lv q (.ref a :: st)) : V l G y cc nL ret R mc ms Z post L M cells slots lv pc st := by
  subst hq
  intro p e s m args below meth c r0 r H locs ls hC hZ hW hR hlo hls
  have hKn := hW.2.2.1.1 ci _ hc.1
  refine W.newcK hC.1 hC.2.1 hC.2.2.2.2.1 (hW.t hcl) (hW.t hinst) (hW.t hini) rfl d hcells hslots hKn.2.1 rfl fun H1 kC hkC e1 z1 o1 => ?_
  have hn := hR.new (kd := .inr (ci, fs)) hL h2 ⟨_, hc.1, (u_born (ws := TB) (args := args) ty (fun w hw => hW.t hw) hc.2.1 hKn hkC e1 hc.2.2.1).to (fun j hj => hfs j hj (va_up r a H.size))⟩ (fun b hb => absurd hb (hnr b)) z1 o1
  have hre : ∀ x, x ≠ a → va_up r a H.size x = r x := fun x hx => va_up_ne _ _ hx
  have h := kk p e s m args below meth c r0 (va_up r a H.size) H1 locs ls hC (fun x hx => (hre x (fun e => hZa (e ▸ hx))).trans (hZ x hx)) hW hn hlo (hls.re (fun x hx => hre x (hno.1 x hx)))
  have hst : (Value.ref a :: st).map (gV (va_up r a H.size)) = .ref H.size :: st.map (gV r) := by
    rw [List.map_cons, gst_re (r := r) (fun x hx => hre x (hno.2 x hx))]
    simp [gV, va_up]
  rw [hst] at h
  exact h
/-- a new array of ints, booleans or longs -/
theorem V_newa (q a t : Nat) {atype : ArrayType} {n : Int32} {N : Nat} {f : Option (Option (Nat → Option Nat))} {ty : FieldType} (hta : newarray.typeOf atype = ty) (htl : (tyL G.2.1)[t]? = some (G.2.1 t, ty)) (hprim : ∀ C, ty ≠ .object C) (harr : Cond.arrayClass ty ∈ TB) (hE : ∀ r, ∃ x : vp_A, gE G.2.1 r (.inl (t, N, f)) (fun _ => 0) = .inl (G.2.1 t, x) ∧ vp_cell (G.2.1 t) x = arrV (G.2.1 t) N (fun _ => defaultValue ty)) (hfr : ∀ b, ¬ gRf (.inl (t, N, f)) b) (hn : ¬ n < 0) (hN : n.toNatClampNeg = N) (hby : N * componentBytes ty ≤ 536870912) (hL : L a = none) (h2 : 2 ≤ a) (hZa : ¬ Z a) (hno : gcl (fun x => x ≠ a) lv st) (hcells : cells + 1 ≤ R.cells) (hslots : slots + N ≤ R.slots) (d : decode cc pc = .ok (.newarray atype, 2)) (hq : pc + 2 = q)
    (kk : V l G y cc nL ret R mc ms Z post (va_up L a (some (.inl (t, N, f)))) (va_up M a (fun _ => 0)) (cells + 1) (slots + N) lv q (.ref a :: st)) : V l G y cc nL ret R mc ms Z post L M cells slots lv pc (.int n :: st) := by
  subst hq
  subst hta
  intro p e s m args below meth c r0 r H locs ls hC hZ hW hR hlo hls
  refine va_newaK hC.1 hC.2.1 (hW.t harr) rfl d rfl hn hN hby hcells hslots rfl fun H1 cA e1 z1 o1 hAr hNm => ?_
  have hcA : cA = G.2.1 t := by
    have h := (hW.2.2.1.2 t _ htl).2
    have h' : s.vm.findClass ("[" ++ (newarray.typeOf atype).toString) = some (G.2.1 t) := by
      cases atype <;> exact h
    exact Option.some.inj (hNm.symm.trans h')
  subst hcA
  obtain ⟨x, hx1, hx2⟩ := hE (va_up r a H.size)
  have hn9 := hR.new (kd := .inl (t, N, f)) hL h2 (by rw [hx1]; show H1[H.size]? = some (vp_cell _ _); rw [hx2]; exact e1) (fun b hb => absurd hb (hfr b)) z1 o1
  have hre : ∀ x, x ≠ a → va_up r a H.size x = r x := fun x hx => va_up_ne _ _ hx
  have h := kk p e s m args below meth c r0 (va_up r a H.size) H1 locs ls hC (fun x hx => (hre x (fun e => hZa (e ▸ hx))).trans (hZ x hx)) hW hn9 hlo (hls.re (fun x hx => hre x (hno.1 x hx)))
  have hst : (Value.ref a :: st).map (gV (va_up r a H.size)) = .ref H.size :: st.map (gV r) := by
    rw [List.map_cons, gst_re (r := r) (fun x hx => hre x (hno.2 x hx))]
    simp [gV, va_up]
  rw [hst] at h
  exact h
theorem V_objInit (q : Nat) {a index : Nat} (hl : Cond.methodLink y.cls index Lib.objectInit ∈ TB) (hi : Cond.instanceMethod Lib.objectInit ∈ TB) (hco : Cond.code Lib.objectInit ⟨#[0xb1]⟩ 1 none ∈ TB) (hfr : 1 ≤ R.frames) (hlc : (st.map fun v => v.category).sum + 12 ≤ R.locals) (d : decode cc pc = .ok (.invokespecial index, 3)) (hq : pc + 3 = q)
    (kk : V l G y cc nL ret R mc ms Z post L M cells slots lv q st) : V l G y cc nL ret R mc ms Z post L M cells slots lv pc (.ref a :: st) := by
  subst hq
  intro p e s m args below meth c r0 r H locs ls hC hZ hW hR hlo hls
  refine W.objInit hC.1 hC.2.1 hC.2.2.2.2.1 (hW.t hl) (hW.t hi) (hW.t hco) rfl (by rw [hC.2.2.2.1]; exact hls.1.1) rfl d hfr ?_ (kk p e s m args below meth c r0 r H locs ls hC hZ hW hR hlo hls)
  have h0 : (F0 m pc ls ((Value.ref a :: st).map (gV r))).monitorRoom = 0 := rfl
  rw [h0, gcat]
  omega
end gNew

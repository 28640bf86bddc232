/-! The memory that class and reference run in, by places of our own: L says what lies at a place (an array's kind and length, an object's class and its references), M says the ints that lie in it; 'r' carries places to addresses. V: the machine's frame over such a memory comes to its end. -/
abbrev gK : Type := (Nat × Nat × Option (Option (Nat → Option Nat))) ⊕ (Nat × List (Option Value))
abbrev gLy : Type := Nat → Option gK
abbrev gMe : Type := Nat → Nat → Int32
/-- what stays: the classes' numbers and slots, the arrays' classes, the base, the heap below it, the given tables' addresses, what else is known of a state -/
abbrev gG : Type := va_G × (Nat → ClassId) × Nat × Heap × (Nat → Nat) × (State → Prop)
def gV (r : Nat → Nat) (v : Value) : Value := match v with
  | .ref a => .ref (r a)
  | w => w
theorem gV_cat (r : Nat → Nat) (v : Value) : (gV r v).category = v.category := by cases v <;> rfl
theorem gV_eq {r r' : Nat → Nat} {v : Value} (h : ∀ a, v = .ref a → r' a = r a) : gV r' v = gV r v := by
  cases v <;> first | rfl | exact congrArg Value.ref (h _ rfl)
def gO (r : Nat → Nat) (x : Int32) (o : Option Value) : Value := match o with
  | none => .int x
  | some v => gV r v
def gF (r : Nat → Nat) (u : Nat → Int32) (fs : List (Option Value)) : List Value := fs.mapIdx (fun k o => gO r (u k) o)
theorem gF_at (r : Nat → Nat) (u : Nat → Int32) (fs : List (Option Value)) (k : Nat) : (gF r u fs)[k]? = (fs[k]?).map (fun o => gO r (u k) o) := by
  simp [gF]
theorem gF_len (r : Nat → Nat) (u : Nat → Int32) (fs : List (Option Value)) : (gF r u fs).length = fs.length := by simp [gF]
theorem gF_seti (r : Nat → Nat) (u : Nat → Int32) {fs : List (Option Value)} {k : Nat} (x : Int32) (h : fs[k]? = some none) : (gF r u fs).set k (.int x) = gF r (upd u k x) fs := by
  apply List.ext_getElem?
  intro j
  have hk : k < fs.length := (List.getElem?_eq_some_iff.mp h).1
  by_cases hj : j = k
  · subst hj
    rw [List.getElem?_set_self (by rw [gF_len]; exact hk), gF_at, h]
    simp [gO, upd]
  · rw [List.getElem?_set_ne (Ne.symm hj), gF_at, gF_at]
    simp [upd, hj]
theorem gF_setr (r : Nat → Nat) (u : Nat → Int32) {fs : List (Option Value)} {k : Nat} (v : Value) (hk : k < fs.length) : (gF r u fs).set k (gV r v) = gF r u (fs.set k (some v)) := by
  apply List.ext_getElem?
  intro j
  by_cases hj : j = k
  · subst hj
    rw [List.getElem?_set_self (by rw [gF_len]; exact hk), gF_at, List.getElem?_set_self hk]
    rfl
  · rw [List.getElem?_set_ne (Ne.symm hj), gF_at, gF_at, List.getElem?_set_ne (Ne.symm hj)]
def gE (dA : Nat → ClassId) (r : Nat → Nat) (k : gK) (u : Nat → Int32) : va_E := match k with
  | .inl (t, n, none) => .inl (dA t, n, .inl u)
  | .inl (t, n, some none) => .inl (dA t, n, .inr (.inl (fun j => (u j).toInt64)))
  | .inl (t, n, some (some f)) => .inl (dA t, n, .inr (.inr (.inr (.inr (fun j => (f j).map r)))))
  | .inr (ci, fs) => .inr (ci, gF r u fs)
/-- the places that a cell refers to -/
def gRf (k : gK) (b : Nat) : Prop := match k with
  | .inl (_, _, some (some f)) => ∃ j, f j = some b
  | .inr (_, fs) => some (Value.ref b) ∈ fs
  | _ => False
theorem gE_eq {dA : Nat → ClassId} {r r' : Nat → Nat} {k : gK} {u : Nat → Int32} (h : ∀ b, gRf k b → r' b = r b) : gE dA r' k u = gE dA r k u := by
  rcases k with ⟨t, n, _ | _ | f⟩ | ⟨ci, fs⟩
  · rfl
  · rfl
  · show Sum.inl _ = Sum.inl _
    have e : (fun j => (f j).map r') = (fun j => (f j).map r) := by
      funext j
      cases hf : f j with
      | none => rfl
      | some b => exact congrArg some (h b ⟨j, hf⟩)
    rw [e]
  · show Sum.inr _ = Sum.inr _
    have e : gF r' u fs = gF r u fs := by
      apply List.ext_getElem?
      intro j
      rw [gF_at, gF_at]
      cases hf : fs[j]? with
      | none => rfl
      | some o =>
        cases o with
        | none => rfl
        | some v =>
          show some _ = some _
          have : gV r' v = gV r v := gV_eq (fun a ha => h a (by subst ha; exact List.mem_of_getElem? hf))
          exact congrArg some this
    rw [e]
/-- the memory at its addresses in the heap; below the base nothing has changed -/
def gR (G : gG) (r : Nat → Nat) (L : gLy) (M : gMe) (H : Heap) : Prop :=
  (∀ a k, L a = some k → va_at G.1 vwCl (r a, gE G.2.1 r k (M a)) H ∧ G.2.2.1 ≤ r a ∧ 2 ≤ a) ∧ (∀ a b, L a ≠ none → L b ≠ none → r a = r b → a = b) ∧ (∀ a k, L a = some k → ∀ b, gRf k b → b < 2 ∨ L b ≠ none) ∧
  (∀ i, i < 2 → r i = G.2.2.2.2.1 i) ∧ G.2.2.1 ≤ H.size ∧ ∀ q : Nat, q < G.2.2.1 → H[q]? = G.2.2.2.1[q]?
/-- what is known of the tables in a state -/
abbrev tyL (dA : Nat → ClassId) : List (ClassId × FieldType) := [(dA 0, .int), (dA 1, .boolean), (dA 2, .long), (dA 3, .object "ProofGate$Fact"), (dA 4, .object "java/lang/Object")]
def gW (G : gG) (U : State) : Prop := (∀ w ∈ TB, va_Nw w U) ∧ (∀ w ∈ NB, va_Nw w U) ∧ va_K G.1 vwCl (tyL G.2.1) U ∧ G.2.2.2.2.2 U ∧ ∀ s U : State, s.WarmedH U.vm → G.2.2.2.2.2 s → G.2.2.2.2.2 U
theorem gW.moved {G : gG} {s U : State} (hW : s.WarmedH U.vm) (h : gW G s) : gW G U := by
  obtain ⟨h1, h2, h3, h4, h5⟩ := h
  refine ⟨fun w hw => ?_, fun w hw => NB_warm w hw hW (h2 w hw), va_K.moved hW.alike h3, h5 s U hW h4, h5⟩
  exact word_at hW (good_of_word (TB_good w hw)) (h1 w hw)
theorem gW.t {G : gG} {U : State} (h : gW G U) {w : Cond} (hw : w ∈ TB) {A : Array Value} : w.before A U = true := by
  rcases good_of_word (TB_good w hw) with hg | ⟨ty, rfl⟩
  · simp only [Bool.and_eq_true] at hg
    exact va_Nw.use hg.1 (h.1 w hw)
  · exact word_at (State.WarmedH.refl U) (Or.inr ⟨ty, rfl⟩) (h.1 _ hw)
/-- the locals -/
def gP (r : Nat → Nat) (lv : List (Option Value)) : List (Nat × Value) := (lv.mapIdx (fun i o => (i, o))).filterMap (fun q => q.2.map (fun v => (q.1, gV r v)))
theorem gP_mem {r : Nat → Nat} {lv : List (Option Value)} {q : Nat × Value} : q ∈ gP r lv ↔ ∃ v, lv[q.1]? = some (some v) ∧ q.2 = gV r v := by
  unfold gP
  rw [List.mem_filterMap]
  constructor
  · rintro ⟨⟨i, o⟩, h1, h2⟩
    obtain ⟨j, hj⟩ := List.getElem?_of_mem h1
    rw [List.getElem?_mapIdx] at hj
    cases ho : lv[j]? with
    | none => rw [ho] at hj; cases hj
    | some o' =>
      rw [ho] at hj
      cases hj
      cases o with
      | none => cases h2
      | some v =>
        cases h2
        exact ⟨v, ho, rfl⟩
  · rintro ⟨v, h1, h2⟩
    refine ⟨(q.1, some v), ?_, ?_⟩
    · apply List.mem_of_getElem? (i := q.1)
      rw [List.getElem?_mapIdx, h1]
      rfl
    · show some (q.1, gV r v) = some q
      rw [← h2]
def gH (ls : Array Slot) (nL : Nat) (r : Nat → Nat) (lv : List (Option Value)) : Prop := lv_has ls nL (gP r lv) ∧ ∀ v, some v ∈ lv → v.category = 1
theorem gH.at {ls : Array Slot} {nL : Nat} {r : Nat → Nat} {lv : List (Option Value)} (h : gH ls nL r lv) {i : Nat} {v : Value} (hi : lv[i]? = some (some v)) : ls[i]? = some (.val (gV r v)) := h.1.2.2 (i, gV r v) (gP_mem.mpr ⟨v, hi, rfl⟩)
theorem gH.set {ls' : Array Slot} {nL : Nat} {r : Nat → Nat} {lv : List (Option Value)} {i : Nat} {v : Value} (hc : ∀ v, some v ∈ lv → v.category = 1) (hv : v.category = 1)
    (h : lv_has ls' nL ((i, gV r v) :: (gP r lv).filter (fun q => !(q.1 == i) && !(q.1 + 1 == i && q.2.category == 2)))) : gH ls' nL r (lv.set i (some v)) := by
  refine ⟨⟨h.1, h.2.1, fun q hq => h.2.2 q ?_⟩, fun w hw => ?_⟩
  · obtain ⟨w, h1, h2⟩ := gP_mem.mp hq
    by_cases hj : q.1 = i
    · have hl : i < lv.length := by
        have := (List.getElem?_eq_some_iff.mp h1).1
        rw [List.length_set] at this
        omega
      rw [hj, List.getElem?_set_self hl] at h1
      cases h1
      obtain ⟨q1, q2⟩ := q
      dsimp only at hj h2
      rw [hj, h2]
      exact List.mem_cons_self
    · rw [List.getElem?_set_ne (Ne.symm hj)] at h1
      refine List.mem_cons_of_mem _ (List.mem_filter.mpr ⟨gP_mem.mpr ⟨w, h1, h2⟩, ?_⟩)
      have hw : q.2.category = 1 := by rw [h2, gV_cat]; exact hc w (List.mem_of_getElem? h1)
      simp [hj, hw]
  · rcases List.mem_or_eq_of_mem_set hw with hw | hw
    · exact hc w hw
    · cases hw
      exact hv
theorem gH.re {ls : Array Slot} {nL : Nat} {r r' : Nat → Nat} {lv : List (Option Value)} (h : gH ls nL r lv) (hr : ∀ a, some (Value.ref a) ∈ lv → r' a = r a) : gH ls nL r' lv := by
  refine ⟨⟨h.1.1, h.1.2.1, fun q hq => ?_⟩, h.2⟩
  obtain ⟨v, h1, h2⟩ := gP_mem.mp hq
  rw [h2, gV_eq (r := r) (fun a ha => hr a (by subst ha; exact List.mem_of_getElem? h1))]
  exact h.at h1
theorem gA_mem : ∀ (vs : List Value) (j i : Nat) (v : Value), (∀ w ∈ vs, w.category = 1) → vs[i]? = some v → (j + i, v) ∈ lv_args j vs
  | [], j, i, v, _, h => by simp at h
  | w :: vs, j, i, v, hc, h => by
    have hw : w.category = 1 := hc w List.mem_cons_self
    unfold lv_args
    rw [if_neg (by omega)]
    cases i with
    | zero =>
      rw [List.getElem?_cons_zero] at h
      cases h
      exact List.mem_cons_self
    | succ i =>
      rw [List.getElem?_cons_succ] at h
      have := gA_mem vs (j + 1) i v (fun w hw => hc w (List.mem_cons_of_mem _ hw)) h
      rw [show j + (i + 1) = j + 1 + i by omega]
      exact List.mem_cons_of_mem _ this
theorem gA_len (vs : List Value) (hc : ∀ w ∈ vs, w.category = 1) : (lg_sl vs).length = vs.length := by
  unfold lg_sl
  induction vs with
  | nil => rfl
  | cons w vs ih =>
    have hw : w.category = 1 := hc w List.mem_cons_self
    rw [List.flatMap_cons, List.length_append, ih (fun w hw => hc w (List.mem_cons_of_mem _ hw)), if_neg (by omega), List.length_cons]
    simp
    omega
/-- the end of a method: its answer, the memory behind it; a thrown end stands as a long: the class's number -/
def gQ (G : gG) (r : Nat → Nat) (Z : Nat → Prop) (post : Option Value → gLy → gMe → Prop) : Array Value → State → Outcome → State → Prop := fun _ _ oc t =>
  ∃ (v : Option Value) (L' : gLy) (M' : gMe) (r' : Nat → Nat), oc = .returned (v.map (gV r')) ∧ (post v L' M' ∧ ∀ k, v ≠ some (.long k)) ∧ (∀ a, Z a → r' a = r a) ∧ gW G t ∧ gR G r' L' M' t.heap
/-- the exceptions' classes, by number -/
def gXc (k : Int64) : String := if k = 0 then "java/lang/IllegalArgumentException" else if k = 1 then "java/lang/UnsupportedOperationException" else if k = 2 then "java/lang/IllegalStateException" else "java/util/NoSuchElementException"
/-- an end by a throw -/
def gTh (G : gG) (r0 : Nat → Nat) (Z : Nat → Prop) (post : Option Value → gLy → gMe → Prop) (mc ms : Nat) (s : State) (o : Outcome) (t : State) : Prop :=
  ∃ (q : Addr) (k : Int64) (ce : Cell) (L' : gLy) (M' : gMe) (r' : Nat → Nat) (locs : List Loc), o = .threw q ∧ post (some (.long k)) L' M' ∧ (∀ a, Z a → r' a = r0 a) ∧ gW G t ∧ gR G r' L' M' t.heap ∧
    (t.heap[q]? = some ce ∧ ce.vm = .none ∧ s.vm.findClass (gXc k) = some ce.cls) ∧ s.WarmedH t.vm ∧ s.sameButNew ({ t with vm := s.vm } : State) locs mc ms ∧ ∀ z ∈ locs, G.2.2.1 ≤ z.base
def gMQ (G : gG) (below : List Frame) (r0 : Nat → Nat) (Z : Nat → Prop) (post : Option Value → gLy → gMe → Prop) (args : Array Value) (s : State) (mc ms : Nat) : State → Prop := fun t =>
  MQ below (gQ G r0 Z post) args s mc ms (fun q => G.2.2.1 ≤ q) t ∨ ∃ o, t.status = .running ∧ Ended t below o ∧ gTh G r0 Z post mc ms s o t
theorem gOr {p : Program} {l : Launch} {e : Env} {R : Room} {s : State} {m : MethodId} {args : Array Value} {below : List Frame} {meth : Method} {c : Code} {H : Heap} {locs : List Loc} {cells slots : Nat} {Q Q' : State → Prop} {g : JFrame} (h : ∀ t, Q t → Q' t) (k : W p l e R s m args below meth c H locs cells slots Q g) : W p l e R s m args below meth c H locs cells slots Q' g := by
  intro T hT X
  obtain ⟨t, a, b⟩ := k T hT X
  exact ⟨t, a, h t b⟩
def gMet (l : Launch) (G : gG) (y : MethodName) (cc : ByteArray) (nL : Nat) (ret : Option FieldType) (rm : Room) (as : List Value) (L : gLy) (M : gMe) (Z : Nat → Prop) (post : Option Value → gLy → gMe → Prop) (mc ms : Nat) : Prop :=
  ∀ r : Nat → Nat, Met l y [.code y cc nL ret] rm (va_Pc (as.map (gV r)) (fun U => gW G U ∧ gR G r L M U.heap)) (gQ G r Z post) mc ms (fun q => G.2.2.1 ≤ q)
def gC (p : Program) (s : State) (m : MethodId) (meth : Method) (c : Code) (y : MethodName) (cc : ByteArray) (nL : Nat) (ret : Option FieldType) : Prop :=
  p.tables.exec = Jvm.exec ∧ c.code = cc ∧ meth.sig.returnType = ret ∧ c.maxLocals = nL ∧ s.vm.findClass y.cls = some m.cls ∧ meth.locks = false ∧ meth.name = y.name ∧ s.methodNamed? y = some m
def V (l : Launch) (G : gG) (y : MethodName) (cc : ByteArray) (nL : Nat) (ret : Option FieldType) (R : Room) (mc ms : Nat) (Z : Nat → Prop) (post : Option Value → gLy → gMe → Prop) (L : gLy) (M : gMe) (cells slots : Nat) (lv : List (Option Value)) (pc : Nat) (st : List Value) : Prop :=
  ∀ (p : Program) (e : Env) (s : State) (m : MethodId) (args : Array Value) (below : List Frame) (meth : Method) (c : Code) (r0 r : Nat → Nat) (H : Heap) (locs : List Loc) (ls : Array Slot),
    gC p s m meth c y cc nL ret → (∀ a, Z a → r a = r0 a) → gW G s → gR G r L M H → (∀ q ∈ locs, G.2.2.1 ≤ q.base) → gH ls nL r lv →
    W p l e R s m args below meth c H locs cells slots (gMQ G below r0 Z post args s mc ms) (F0 m pc ls (st.map (gV r)))
theorem gMet_of {l : Launch} {G : gG} {y : MethodName} {cc : ByteArray} {nL : Nat} {ret : Option FieldType} {rm : Room} {as : List Value} {L : gLy} {M : gMe} {Z : Nat → Prop} {post : Option Value → gLy → gMe → Prop} {mc ms : Nat} {lv : List (Option Value)}
    (hy : plainName y.cls = true) (hc : as.all (fun v => v.category == 1) = true) (hn : as.length ≤ nL) (hlv : as.map some ++ List.replicate (nL - as.length) none = lv) (h : V l G y cc nL ret rm mc ms Z post L M 0 0 lv 0 []) (hnx : ∀ k L' M', ¬ post (some (.long k)) L' M' := by (intro k L' M' h9; exact absurd h9.1 (by simp))) : gMet l G y cc nL ret rm as L M Z post mc ms := by
  intro r
  refine Met.ofW (cc := cc) (maxL := nL) (ret := ret) hy rfl ?_
  intro p e s m args below meth c s₁ B hml hv
  obtain ⟨rfl, hW, hR⟩ := hv
  have hc1 : ∀ v ∈ as, v.category = 1 := fun v hv => by
    have := List.all_eq_true.mp hc v hv
    simpa using this
  have hc2 : ∀ w ∈ as.map (gV r), w.category = 1 := by
    intro w hw
    obtain ⟨v, hv, rfl⟩ := List.mem_map.mp hw
    rw [gV_cat]; exact hc1 v hv
  have hl := lv_entry (as.map (gV r)) (n := nL) (by rw [gA_len _ hc2, List.length_map]; exact hn)
  rw [lg_entry_eq]
  generalize (lg_sl (as.map (gV r)) ++ List.replicate (nL - (lg_sl (as.map (gV r))).length) Slot.unset).toArray = ls at hl ⊢
  refine gOr (Q := gMQ G below r Z post (as.map (gV r)).toArray s mc ms) (fun t ht => ht.elim id (fun ⟨o, _, _, q, k, _, L9, M9, _, _, _, h9, _⟩ => absurd h9 (hnx k L9 M9))) ?_
  refine h p e s m _ below meth c r r s.heap [] ls ⟨B.exec, B.bytes, B.returns, hml, findClass_of_methodNamed B.named, B.notSynchronized, (name_of_methodNamed B.named B.method).1, B.named⟩ (fun _ _ => rfl) hW hR (fun q h => by cases h) ⟨⟨hl.1, hl.2.1, fun q hq => hl.2.2 q ?_⟩, fun v hv => ?_⟩
  · obtain ⟨v, h1, h2⟩ := gP_mem.mp hq
    subst hlv
    by_cases hlt : q.1 < as.length
    · rw [List.getElem?_append_left (by simpa using hlt), List.getElem?_map] at h1
      cases ha : as[q.1]? with
      | none => rw [ha] at h1; cases h1
      | some w =>
        rw [ha] at h1
        cases h1
        have := gA_mem (as.map (gV r)) 0 q.1 (gV r v) hc2 (by rw [List.getElem?_map, ha]; rfl)
        rw [Nat.zero_add] at this
        obtain ⟨q1, q2⟩ := q
        dsimp only at h2 this ⊢
        rw [h2]; exact this
    · rw [List.getElem?_append_right (by simpa using Nat.le_of_not_lt hlt)] at h1
      have := List.mem_of_getElem? h1
      rw [List.mem_replicate] at this
      cases this.2
  · subst hlv
    rcases List.mem_append.mp hv with hv | hv
    · obtain ⟨w, hw, e⟩ := List.mem_map.mp hv
      cases e
      exact hc1 v hw
    · rw [List.mem_replicate] at hv
      cases hv.2

/-! the memory changes -/
theorem gP1 {D : va_G} {cl : List vw_C} {x : Nat × va_E} {H : Heap} (h : va_at D cl x H) : va_P D cl [x] H := by
  intro k z hk
  cases k with
  | zero => cases hk; exact h
  | succ k => simp at hk
def gst (M : gMe) (a k : Nat) (x : Int32) : gMe := va_up M a (upd (M a) k x)
theorem gst_at (M : gMe) (a k : Nat) (x : Int32) (b j : Nat) : gst M a k x b j = if b = a then (if j = k then x else M a j) else M b j := by
  unfold gst va_up upd
  by_cases h : b = a
  · simp [h]
  · simp [h]
theorem gst_same (M : gMe) (a k : Nat) (x : Int32) : gst M a k x a = upd (M a) k x := by simp [gst, va_up]
theorem gst_ne (M : gMe) (a k : Nat) (x : Int32) {b : Nat} (h : b ≠ a) : gst M a k x b = M b := by simp [gst, va_up, h]
theorem va_up_id {α : Type} (f : Nat → α) (a : Nat) : va_up f a (f a) = f := by
  funext b
  by_cases h : b = a
  · subst h; simp [va_up]
  · simp [va_up, h]
theorem gR.up {G : gG} {r : Nat → Nat} {L : gLy} {M : gMe} {H H' : Heap} {a : Nat} {kd kd' : gK} {u' : Nat → Int32} (hR : gR G r L M H) (hL : L a = some kd) (hat : va_at G.1 vwCl (r a, gE G.2.1 r kd' u') H') (hcl : ∀ b, gRf kd' b → b < 2 ∨ L b ≠ none)
    (z : H'.size = H.size) (oq : ∀ q : Nat, q ≠ r a → H'[q]? = H[q]?) : gR G r (va_up L a (some kd')) (va_up M a u') H' := by
  obtain ⟨h1, h2, h3, h4, h5, h6⟩ := hR
  have hne : ∀ b, va_up L a (some kd') b ≠ none ↔ L b ≠ none := by
    intro b
    by_cases hb : b = a
    · subst hb; simp [va_up, hL]
    · simp [va_up, hb]
  refine ⟨fun b k hb => ?_, fun b c hb hc => h2 b c ((hne b).mp hb) ((hne c).mp hc), fun b k hb x hx => ?_, h4, by omega, fun q hq => ?_⟩
  · by_cases hba : b = a
    · subst hba
      rw [va_up_self] at hb
      cases hb
      rw [va_up_self]
      exact ⟨hat, (h1 b kd hL).2⟩
    · rw [va_up_ne _ _ hba] at hb
      rw [va_up_ne _ _ hba]
      obtain ⟨g1, g2⟩ := h1 b k hb
      exact ⟨g1.kept (oq _ (fun e => hba (h2 b a (by rw [hb]; exact fun h => by cases h) (by rw [hL]; exact fun h => by cases h) e))), g2⟩
  · rw [hne x]
    by_cases hba : b = a
    · subst hba
      rw [va_up_self] at hb
      cases hb
      exact hcl x hx
    · rw [va_up_ne _ _ hba] at hb
      exact h3 b k hb x hx
  · have hB := (h1 a kd hL).2.1
    rw [oq q (by omega)]
    exact h6 q hq
theorem gR.upM {G : gG} {r : Nat → Nat} {L : gLy} {M : gMe} {H H' : Heap} {a : Nat} {kd : gK} {u' : Nat → Int32} (hR : gR G r L M H) (hL : L a = some kd) (hat : va_at G.1 vwCl (r a, gE G.2.1 r kd u') H')
    (z : H'.size = H.size) (oq : ∀ q : Nat, q ≠ r a → H'[q]? = H[q]?) : gR G r L (va_up M a u') H' := by
  have h := gR.up hR hL hat (hR.2.2.1 a kd hL) z oq
  rw [← hL, va_up_id] at h
  exact h
theorem gR.new {G : gG} {r : Nat → Nat} {L : gLy} {M : gMe} {H H' : Heap} {a : Nat} {kd : gK} (hR : gR G r L M H) (hL : L a = none) (h2a : 2 ≤ a) (hat : va_at G.1 vwCl (H.size, gE G.2.1 (va_up r a H.size) kd (fun _ => 0)) H') (hcl : ∀ b, gRf kd b → b < 2 ∨ L b ≠ none)
    (z : H'.size = H.size + 1) (oq : ∀ q : Nat, q < H.size → H'[q]? = H[q]?) : gR G (va_up r a H.size) (va_up L a (some kd)) (va_up M a (fun _ => 0)) H' := by
  obtain ⟨h1, h2, h3, h4, h5, h6⟩ := hR
  have hlt : ∀ b k, L b = some k → r b < H.size := fun b k hb => (h1 b k hb).1.lt
  have hex : ∀ b, L b ≠ none → ∃ k, L b = some k := fun b hb => by
    cases hk : L b with
    | none => exact absurd hk hb
    | some k => exact ⟨k, rfl⟩
  refine ⟨fun b k hb => ?_, fun b c hb hc hbc => ?_, fun b k hb x hx => ?_, fun i hi => ?_, by omega, fun q hq => ?_⟩
  · by_cases hba : b = a
    · subst hba
      rw [va_up_self] at hb
      cases hb
      rw [va_up_self, va_up_self]
      exact ⟨hat, h5, h2a⟩
    · rw [va_up_ne _ _ hba] at hb
      rw [va_up_ne _ _ hba, va_up_ne _ _ hba]
      obtain ⟨g1, g2⟩ := h1 b k hb
      have e : gE G.2.1 (va_up r a H.size) k (M b) = gE G.2.1 r k (M b) := gE_eq (fun x hx => by
        rw [va_up_ne]
        rintro rfl
        rcases h3 b k hb x hx with h | h
        · omega
        · exact h hL)
      rw [e]
      exact ⟨g1.kept (oq _ g1.lt), g2⟩
  · by_cases hba : b = a
    · by_cases hca : c = a
      · rw [hba, hca]
      · subst hba
        rw [va_up_ne _ _ hca] at hc
        obtain ⟨k, hk⟩ := hex c hc
        rw [va_up_self, va_up_ne _ _ hca] at hbc
        have := hlt c k hk
        omega
    · rw [va_up_ne _ _ hba] at hb
      obtain ⟨k, hk⟩ := hex b hb
      by_cases hca : c = a
      · subst hca
        rw [va_up_self, va_up_ne _ _ hba] at hbc
        have := hlt b k hk
        omega
      · rw [va_up_ne _ _ hca] at hc
        rw [va_up_ne _ _ hba, va_up_ne _ _ hca] at hbc
        exact h2 b c hb hc hbc
  · have up : ∀ x, L x ≠ none → va_up L a (some kd) x ≠ none := by
      intro x hx
      by_cases hxa : x = a
      · subst hxa; rw [va_up_self]; exact fun h => by cases h
      · rw [va_up_ne _ _ hxa]; exact hx
    by_cases hba : b = a
    · subst hba
      rw [va_up_self] at hb
      cases hb
      exact (hcl x hx).imp id (up x)
    · rw [va_up_ne _ _ hba] at hb
      exact (h3 b k hb x hx).imp id (up x)
  · rw [va_up_ne _ _ (by omega)]
    exact h4 i hi
  · rw [oq q (by omega)]
    exact h6 q hq
/-- a place is given up: nothing refers to it -/
theorem gR.drop {G : gG} {r : Nat → Nat} {L : gLy} {M : gMe} {H : Heap} {a : Nat} (hR : gR G r L M H) (hno : ∀ b k, L b = some k → b ≠ a → ¬ gRf k a) : gR G r (va_up L a none) M H := by
  obtain ⟨h1, h2, h3, h4, h5, h6⟩ := hR
  have dn : ∀ x k, va_up L a none x = some k → x ≠ a ∧ L x = some k := by
    intro x k hx
    by_cases hxa : x = a
    · subst hxa; rw [va_up_self] at hx; cases hx
    · rw [va_up_ne _ _ hxa] at hx; exact ⟨hxa, hx⟩
  have dn' : ∀ x, va_up L a none x ≠ none → L x ≠ none := by
    intro x hx
    by_cases hxa : x = a
    · subst hxa; rw [va_up_self] at hx; exact absurd rfl hx
    · rw [va_up_ne _ _ hxa] at hx; exact hx
  refine ⟨fun b k hb => h1 b k (dn b k hb).2, fun b c hb hc => h2 b c (dn' b hb) (dn' c hc), fun b k hb x hx => ?_, h4, h5, h6⟩
  obtain ⟨hba, hb'⟩ := dn b k hb
  have hxa : x ≠ a := by rintro rfl; exact hno b k hb' hba hx
  rw [va_up_ne _ _ hxa]
  exact h3 b k hb' x hx
/-- the references that a frame holds -/
def gcl (Z : Nat → Prop) (lv : List (Option Value)) (st : List Value) : Prop := (∀ a, some (Value.ref a) ∈ lv → Z a) ∧ ∀ a, Value.ref a ∈ st → Z a
theorem gcl_all {lv : List (Option Value)} {st : List Value} : gcl (fun _ => True) lv st := ⟨fun _ _ => trivial, fun _ _ => trivial⟩
theorem gst_re {r r' : Nat → Nat} {st : List Value} (h : ∀ a, Value.ref a ∈ st → r' a = r a) : st.map (gV r') = st.map (gV r) := List.map_congr_left (fun v hv => gV_eq (fun a ha => h a (by subst ha; exact hv)))
/-- a class's table -/
def gCl (ci : Nat) (C : String) (T : u_T) (N : Nat) (ty : Nat → FieldType) : Prop := vwCl[ci]? = some (C, T, N) ∧ (∀ w ∈ u_ws C T N, w ∈ TB) ∧ (∀ k, k < N → parseFieldDescriptor (T k).2.2.1 = some (ty k)) ∧ ∀ a, a < N → ∀ b, b < N → a ≠ b → (T a).2.1 ≠ (T b).2.1
def gFl (own : String) (index : Nat) (ref nm ds : String) : Prop := Cond.fieldLink own index ref nm ds ∈ TB ∨ ∃ host, Cond.fieldLinkNest own index ref nm ds host ∈ NB
def gSf (ref O nm ds : String) : Prop := ref = O ∨ Cond.sameField ref O nm ds ∈ TB
theorem gSf.use {G : gG} {s : State} {args : Array Value} {ref O nm ds : String} (h : gSf ref O nm ds) (hW : gW G s) : ∀ x, s.fieldFound? O nm ds = some x → s.fieldFound? ref nm ds = some x := by
  rcases h with rfl | h
  · exact fun _ h => h
  · exact fun x hx => u_same (args := args) (hW.t h) x hx
section gMem
variable {l : Launch} {G : gG} {y : MethodName} {cc : ByteArray} {nL : Nat} {ret : Option FieldType} {R : Room} {mc ms : Nat} {Z : Nat → Prop} {post : Option Value → gLy → gMe → Prop} {L : gLy} {M : gMe} {cells slots : Nat} {lv : List (Option Value)} {pc : Nat} {st : List Value}
theorem V_getv (q k : Nat) {a ci index N : Nat} {C ref : String} {T : u_T} {ty : Nat → FieldType} {fs : List (Option Value)} {o : Option Value} {v : Value} (hL : L a = some (.inr (ci, fs))) (hc : gCl ci C T N ty) (hk : k < N) (hl : gFl y.cls index ref (T k).2.1 (T k).2.2.1) (hs : gSf ref (T k).1 (T k).2.1 (T k).2.2.1) (hf : fs[k]? = some o) (hv : ∀ r, gO r (M a k) o = gV r v) (d : decode cc pc = .ok (.getfield index, 3)) (hq : pc + 3 = q)
    (kk : V l G y cc nL ret R mc ms Z post L M cells slots lv q (v :: st)) : V l G y cc nL ret R mc ms Z post L M cells slots lv pc (.ref a :: st) := by
  subst hq
  intro p e s m args below meth c r0 r H locs ls hC hZ hW hR hlo hls
  have hP := gP1 (hR.1 a _ hL).1
  have hv' : (gF r (M a) fs)[k]? = some (gV r v) := by rw [gF_at, hf]; exact congrArg some (hv r)
  rcases hl with hl | ⟨host, hl⟩
  · exact va_get (Ts := TB) hC.1 hC.2.1 (fun w hw => hW.t hw) hc.2.1 hC.2.2.2.2.1 hW.2.2.1 hP 0 rfl hc.1 k hk (hW.t hl) (hs.use (args := args) hW) hv' d (kk p e s m args below meth c r0 r H locs ls hC hZ hW hR hlo hls)
  · exact va_getN (Ts := TB) hC.1 hC.2.1 (fun w hw => hW.t hw) hc.2.1 hC.2.2.2.2.1 hW.2.2.1 hP 0 rfl hc.1 k hk (va_Nw.use rfl (hW.2.1 _ hl)) (hs.use (args := args) hW) hv' d (kk p e s m args below meth c r0 r H locs ls hC hZ hW hR hlo hls)
/-- an int field -/
theorem V_geti (q k : Nat) {a ci index N : Nat} {C ref : String} {T : u_T} {ty : Nat → FieldType} {fs : List (Option Value)} (hL : L a = some (.inr (ci, fs))) (hc : gCl ci C T N ty) (hk : k < N) (hl : gFl y.cls index ref (T k).2.1 (T k).2.2.1) (hs : gSf ref (T k).1 (T k).2.1 (T k).2.2.1) (hf : fs[k]? = some none) (d : decode cc pc = .ok (.getfield index, 3)) (hq : pc + 3 = q)
    (kk : V l G y cc nL ret R mc ms Z post L M cells slots lv q (.int (M a k) :: st)) : V l G y cc nL ret R mc ms Z post L M cells slots lv pc (.ref a :: st) :=
  V_getv q k hL hc hk hl hs hf (fun _ => rfl) d hq kk
/-- a reference field -/
theorem V_getr (q k : Nat) {a ci index N : Nat} {C ref : String} {T : u_T} {ty : Nat → FieldType} {fs : List (Option Value)} {v : Value} (hL : L a = some (.inr (ci, fs))) (hc : gCl ci C T N ty) (hk : k < N) (hl : gFl y.cls index ref (T k).2.1 (T k).2.2.1) (hs : gSf ref (T k).1 (T k).2.1 (T k).2.2.1) (hf : fs[k]? = some (some v)) (d : decode cc pc = .ok (.getfield index, 3)) (hq : pc + 3 = q)
    (kk : V l G y cc nL ret R mc ms Z post L M cells slots lv q (v :: st)) : V l G y cc nL ret R mc ms Z post L M cells slots lv pc (.ref a :: st) :=
  V_getv q k hL hc hk hl hs hf (fun _ => rfl) d hq kk
/-- a field is written: what comes of it in the heap -/
theorem gput {p : Program} {e : Env} {s : State} {m : MethodId} {args : Array Value} {below : List Frame} {meth : Method} {c : Code} {r : Nat → Nat} {H : Heap} {locs : List Loc} {ls : Array Slot} {Q : State → Prop} {st' : List Value} (k : Nat) {a ci index N : Nat} {C ref : String} {T : u_T} {ty : Nat → FieldType} {fs : List (Option Value)} {v : Value}
    (hC : gC p s m meth c y cc nL ret) (hW : gW G s) (hR : gR G r L M H) (hL : L a = some (.inr (ci, fs))) (hc : gCl ci C T N ty) (hk : k < N) (hl : gFl y.cls index ref (T k).2.1 (T k).2.2.1) (hs : gSf ref (T k).1 (T k).2.1 (T k).2.2.1) (hfin : (T k).2.2.2 = false) (hn : narrow (ty k) v = v) (hfit : fits (ty k) v = true) (hlen : k < fs.length) (d : decode cc pc = .ok (.putfield index, 3))
    (kk : ∀ (H' : Heap) (z9 : Nat), va_at G.1 vwCl (r a, .inr (ci, (gF r (M a) fs).set k v)) H' → H'.size = H.size → (∀ q : Nat, q ≠ r a → H'[q]? = H[q]?) → W p l e R s m args below meth c H' (locs ++ [⟨r a, z9⟩]) cells slots Q (F0 m (pc + 3) ls st')) : W p l e R s m args below meth c H locs cells slots Q (F0 m pc ls (v :: .ref (r a) :: st')) := by
  have hap := va_apart (own := y.cls) (Ts := TB) (args := args) (fun w hw => hW.t hw) hc.2.1 ty hc.2.2.1 hc.2.2.2 hW.2.2.1 hc.1
  obtain ⟨r9, g1, cell, q1, q2, q3, q4⟩ := (hR.1 a _ hL).1
  have hr : r9 = (C, T, N) := Option.some.inj (g1.symm.trans hc.1)
  subst hr
  obtain ⟨hS, hfc, kC, hkC, hkind⟩ := hW.2.2.1.1 ci _ hc.1
  obtain ⟨cf, kf, fi, f, hi, hsl⟩ := hS k hk
  have hlay : (u_lay C T k).before args s = true := hW.t (hc.2.1 _ (u_in_lay hk))
  unfold u_lay at hlay
  rw [if_neg (by rw [hfin]; decide)] at hlay
  have hst := (u_facts hfc hkC (Or.inl hlay) hi).1
  have h6 := u_store hfc hkC hkind hlay hi (hc.2.2.1 k hk) hn hfit
  have hlen' : k < (gF r (M a) fs).length := by rw [gF_len]; exact hlen
  rcases hl with hl | ⟨host, hl⟩
  · refine W.putK hC.1 hC.2.1 (f := f) ⟨hC.2.2.2.2.1, hW.t hl, ⟨_, _, _, hs.use (args := args) hW _ hi⟩, hst⟩ (by rw [q2]; exact h6) q1 q3 (by rw [hsl]; exact k2_hasslot (q4 k hk)) rfl rfl d fun H' e1 e2 e3 => ?_
    rw [hsl] at e1 ⊢
    exact kk H' _ ⟨_, hc.1, t_OB.to (V := updV (vp_V (gF r (M a) fs)) k v) ⟨_, e1, q2, q3, t_set q4 hap hk v⟩ (fun j _ => vp_updV_set hlen' v j)⟩ e2 e3
  · refine va_WputK hC.1 hC.2.1 (f := f) hC.2.2.2.2.1 (va_Nw.use rfl (hW.2.1 _ hl)) (hs.use (args := args) hW _ hi) hst (by rw [q2]; exact h6) q1 q3 (by rw [hsl]; exact k2_hasslot (q4 k hk)) rfl rfl d fun H' e1 e2 e3 => ?_
    rw [hsl] at e1 ⊢
    exact kk H' _ ⟨_, hc.1, t_OB.to (V := updV (vp_V (gF r (M a) fs)) k v) ⟨_, e1, q2, q3, t_set q4 hap hk v⟩ (fun j _ => vp_updV_set hlen' v j)⟩ e2 e3
/-- the same of a final field in its class's constructor -/
theorem gputF {p : Program} {e : Env} {s : State} {m : MethodId} {args : Array Value} {below : List Frame} {meth : Method} {c : Code} {r : Nat → Nat} {H : Heap} {locs : List Loc} {ls : Array Slot} {Q : State → Prop} {st' : List Value} (k : Nat) {a ci index N : Nat} {C : String} {T : u_T} {ty : Nat → FieldType} {fs : List (Option Value)} {v : Value}
    (hC : gC p s m meth c y cc nL ret) (hW : gW G s) (hR : gR G r L M H) (hL : L a = some (.inr (ci, fs))) (hc : gCl ci C T N ty) (hk : k < N) (hl : Cond.fieldLink y.cls index (T k).1 (T k).2.1 (T k).2.2.1 ∈ TB) (hin : y.name = "<init>") (hdec : (T k).1 = y.cls) (hfin : (T k).2.2.2 = true) (hn : narrow (ty k) v = v) (hfit : fits (ty k) v = true) (hlen : k < fs.length) (d : decode cc pc = .ok (.putfield index, 3))
    (kk : ∀ (H' : Heap) (z9 : Nat), va_at G.1 vwCl (r a, .inr (ci, (gF r (M a) fs).set k v)) H' → H'.size = H.size → (∀ q : Nat, q ≠ r a → H'[q]? = H[q]?) → W p l e R s m args below meth c H' (locs ++ [⟨r a, z9⟩]) cells slots Q (F0 m (pc + 3) ls st')) : W p l e R s m args below meth c H locs cells slots Q (F0 m pc ls (v :: .ref (r a) :: st')) := by
  have hap := va_apart (own := y.cls) (Ts := TB) (args := args) (fun w hw => hW.t hw) hc.2.1 ty hc.2.2.1 hc.2.2.2 hW.2.2.1 hc.1
  obtain ⟨r9, g1, cell, q1, q2, q3, q4⟩ := (hR.1 a _ hL).1
  have hr : r9 = (C, T, N) := Option.some.inj (g1.symm.trans hc.1)
  subst hr
  obtain ⟨hS, hfc, kC, hkC, hkind⟩ := hW.2.2.1.1 ci _ hc.1
  obtain ⟨cf, kf, fi, f, hi, hsl⟩ := hS k hk
  have hlay : (u_lay C T k).before args s = true := hW.t (hc.2.1 _ (u_in_lay hk))
  unfold u_lay at hlay
  rw [if_pos hfin] at hlay
  have hst := (u_facts hfc hkC (Or.inr hlay) hi).1
  have hcf : m.cls = cf := by
    obtain ⟨_, _, c', _, _, _, -, -, hf', -, -, -, hown2, -⟩ := Cond.laysFinal_spec hlay
    have e1 : c' = cf := by have := hi.symm.trans hf'; simp at this; exact this.1.symm
    rw [hdec] at hown2
    rw [← e1]; exact Option.some.inj (hC.2.2.2.2.1.symm.trans hown2)
  have h6 := u_fits hfc hkC hkind (Or.inr hlay) hi (hc.2.2.1 k hk) hn hfit
  have hlen' : k < (gF r (M a) fs).length := by rw [gF_len]; exact hlen
  refine W.putFinK hC.1 hC.2.1 hC.2.2.2.2.1 (hW.t hl) hi hst hcf (hC.2.2.2.2.2.2.1.trans hin) (by rw [q2]; exact h6) q1 q3 (by rw [hsl]; exact k2_hasslot (q4 k hk)) rfl rfl d fun H' e1 e2 e3 => ?_
  rw [hsl] at e1 ⊢
  exact kk H' _ ⟨_, hc.1, t_OB.to (V := updV (vp_V (gF r (M a) fs)) k v) ⟨_, e1, q2, q3, t_set q4 hap hk v⟩ (fun j _ => vp_updV_set hlen' v j)⟩ e2 e3
theorem glo {B a z9 : Nat} {locs : List Loc} (hlo : ∀ q ∈ locs, B ≤ q.base) (ha : B ≤ a) : ∀ q ∈ locs ++ [⟨a, z9⟩], B ≤ q.base := by
  intro q hq
  rcases List.mem_append.mp hq with h | h
  · exact hlo q h
  · rw [List.mem_singleton] at h
    subst h
    exact ha
theorem V_puti (q k : Nat) {a ci index N : Nat} {C ref : String} {T : u_T} {ty : Nat → FieldType} {fs : List (Option Value)} {x : Int32} (hL : L a = some (.inr (ci, fs))) (hc : gCl ci C T N ty) (hk : k < N) (hl : gFl y.cls index ref (T k).2.1 (T k).2.2.1) (hs : gSf ref (T k).1 (T k).2.1 (T k).2.2.1) (hfin : (T k).2.2.2 = false) (hn : narrow (ty k) (.int x) = .int x) (hfit : fits (ty k) (.int x) = true) (hf : fs[k]? = some none) (d : decode cc pc = .ok (.putfield index, 3)) (hq : pc + 3 = q)
    (kk : V l G y cc nL ret R mc ms Z post L (gst M a k x) cells slots lv q st) : V l G y cc nL ret R mc ms Z post L M cells slots lv pc (.int x :: .ref a :: st) := by
  subst hq
  intro p e s m args below meth c r0 r H locs ls hC hZ hW hR hlo hls
  refine gput k (v := .int x) hC hW hR hL hc hk hl hs hfin hn hfit (List.getElem?_eq_some_iff.mp hf).1 d fun H' z9 g z oq => ?_
  refine kk p e s m args below meth c r0 r H' _ ls hC hZ hW (hR.upM hL ?_ z oq) (glo hlo (hR.1 a _ hL).2.1) hls
  rw [gF_seti r (M a) x hf] at g
  exact g
theorem V_putiF (q k : Nat) {a ci index N : Nat} {C : String} {T : u_T} {ty : Nat → FieldType} {fs : List (Option Value)} {x : Int32} (hL : L a = some (.inr (ci, fs))) (hc : gCl ci C T N ty) (hk : k < N) (hl : Cond.fieldLink y.cls index (T k).1 (T k).2.1 (T k).2.2.1 ∈ TB) (hin : y.name = "<init>") (hdec : (T k).1 = y.cls) (hfin : (T k).2.2.2 = true) (hn : narrow (ty k) (.int x) = .int x) (hfit : fits (ty k) (.int x) = true) (hf : fs[k]? = some none) (d : decode cc pc = .ok (.putfield index, 3)) (hq : pc + 3 = q)
    (kk : V l G y cc nL ret R mc ms Z post L (gst M a k x) cells slots lv q st) : V l G y cc nL ret R mc ms Z post L M cells slots lv pc (.int x :: .ref a :: st) := by
  subst hq
  intro p e s m args below meth c r0 r H locs ls hC hZ hW hR hlo hls
  refine gputF k (v := .int x) hC hW hR hL hc hk hl hin hdec hfin hn hfit (List.getElem?_eq_some_iff.mp hf).1 d fun H' z9 g z oq => ?_
  refine kk p e s m args below meth c r0 r H' _ ls hC hZ hW (hR.upM hL ?_ z oq) (glo hlo (hR.1 a _ hL).2.1) hls
  rw [gF_seti r (M a) x hf] at g
  exact g
/-- what a reference field may get: an object of the memory, a given table, null -/
def gpr (L : gLy) (v : Value) : Prop := ∀ b, v = .ref b → b < 2 ∨ L b ≠ none
theorem gcl_set {L : gLy} {ci k : Nat} {fs : List (Option Value)} {v : Value} (h : ∀ b, gRf (.inr (ci, fs)) b → b < 2 ∨ L b ≠ none) (hv : gpr L v) : ∀ b, gRf (.inr (ci, fs.set k (some v))) b → b < 2 ∨ L b ≠ none := by
  intro b hb
  rcases List.mem_or_eq_of_mem_set (show some (Value.ref b) ∈ fs.set k (some v) from hb) with hb | hb
  · exact h b hb
  · exact hv b (Option.some.inj hb).symm
theorem V_putr (q k : Nat) {a ci index N : Nat} {C ref : String} {T : u_T} {ty : Nat → FieldType} {fs : List (Option Value)} {v : Value} (hL : L a = some (.inr (ci, fs))) (hc : gCl ci C T N ty) (hk : k < N) (hl : gFl y.cls index ref (T k).2.1 (T k).2.2.1) (hs : gSf ref (T k).1 (T k).2.1 (T k).2.2.1) (hfin : (T k).2.2.2 = false) (hn : ∀ r, narrow (ty k) (gV r v) = gV r v) (hfit : ∀ r, fits (ty k) (gV r v) = true) (hlen : k < fs.length) (hv : gpr L v) (d : decode cc pc = .ok (.putfield index, 3)) (hq : pc + 3 = q)
    (kk : V l G y cc nL ret R mc ms Z post (va_up L a (some (.inr (ci, fs.set k (some v))))) M cells slots lv q st) : V l G y cc nL ret R mc ms Z post L M cells slots lv pc (v :: .ref a :: st) := by
  subst hq
  intro p e s m args below meth c r0 r H locs ls hC hZ hW hR hlo hls
  refine gput k (v := gV r v) hC hW hR hL hc hk hl hs hfin (hn r) (hfit r) hlen d fun H' z9 g z oq => ?_
  have h := hR.up (kd' := .inr (ci, fs.set k (some v))) (u' := M a) hL (by rw [gF_setr r (M a) v hlen] at g; exact g) (gcl_set (hR.2.2.1 a _ hL) hv) z oq
  rw [va_up_id] at h
  exact kk p e s m args below meth c r0 r H' _ ls hC hZ hW h (glo hlo (hR.1 a _ hL).2.1) hls
theorem V_putrF (q k : Nat) {a ci index N : Nat} {C : String} {T : u_T} {ty : Nat → FieldType} {fs : List (Option Value)} {v : Value} (hL : L a = some (.inr (ci, fs))) (hc : gCl ci C T N ty) (hk : k < N) (hl : Cond.fieldLink y.cls index (T k).1 (T k).2.1 (T k).2.2.1 ∈ TB) (hin : y.name = "<init>") (hdec : (T k).1 = y.cls) (hfin : (T k).2.2.2 = true) (hn : ∀ r, narrow (ty k) (gV r v) = gV r v) (hfit : ∀ r, fits (ty k) (gV r v) = true) (hlen : k < fs.length) (hv : gpr L v) (d : decode cc pc = .ok (.putfield index, 3)) (hq : pc + 3 = q)
    (kk : V l G y cc nL ret R mc ms Z post (va_up L a (some (.inr (ci, fs.set k (some v))))) M cells slots lv q st) : V l G y cc nL ret R mc ms Z post L M cells slots lv pc (v :: .ref a :: st) := by
  subst hq
  intro p e s m args below meth c r0 r H locs ls hC hZ hW hR hlo hls
  refine gputF k (v := gV r v) hC hW hR hL hc hk hl hin hdec hfin (hn r) (hfit r) hlen d fun H' z9 g z oq => ?_
  have h := hR.up (kd' := .inr (ci, fs.set k (some v))) (u' := M a) hL (by rw [gF_setr r (M a) v hlen] at g; exact g) (gcl_set (hR.2.2.1 a _ hL) hv) z oq
  rw [va_up_id] at h
  exact kk p e s m args below meth c r0 r H' _ ls hC hZ hW h (glo hlo (hR.1 a _ hL).2.1) hls
end gMem

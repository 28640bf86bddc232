/-! arrays of references -/
section gRefs
variable {l : Launch} {G : gG} {y : MethodName} {cc : ByteArray} {nL : Nat} {ret : Option FieldType} {R : Room} {mc ms : Nat} {Z : Nat → Prop} {post : Option Value → gLy → gMe → Prop} {L : gLy} {M : gMe} {cells slots : Nat} {lv : List (Option Value)} {pc : Nat} {st : List Value}
theorem V_anew (q a t N : Nat) {C : String} {index : Nat} {n : Int32} (htl : (tyL G.2.1)[t]? = some (G.2.1 t, .object C)) (hcl : Cond.classLink y.cls index C ∈ TB) (hov : gHe G (fun U => va_AO C U)) (hn : n = nI N) (hN : N < 1000) (hL : L a = none) (h2 : 2 ≤ a) (hZa : ¬ Z a) (hno : gcl (fun x => x ≠ a) lv st) (hcells : cells + 1 ≤ R.cells) (hslots : slots + N ≤ R.slots) (d : decode cc pc = .ok (.anewarray index, 3)) (hq : pc + 3 = q)
    (kk : V l G y cc nL ret R mc ms Z post (va_up L a (some (.inl (t, N, some (some (fun _ => none)))))) (va_up M a (fun _ => 0)) (cells + 1) (slots + N) lv q (.ref a :: st)) : V l G y cc nL ret R mc ms Z post L M cells slots lv pc (.int n :: st) := by
  subst hq
  subst hn
  intro p e s m args below meth c r0 r H locs ls hC hZ hW hR hlo hls
  have hc9 : (nI N).toNatClampNeg = N := nI_clamp (by omega)
  have hao : va_AO C s := va_AO.moved (u := { s with heap := H }) (U := s) (State.WarmedH.refl s).alike (hov s { s with heap := H } hW.2.2.2.1 (State.WarmedH.refl s) hR.2.2.2.2.1 hR.2.2.2.2.2)
  refine W.anew hC.1 hC.2.1 hC.2.2.2.2.1 (hW.t hcl) (va_AO.use hao) (g := F0 m pc ls ((Value.int (nI N) :: st).map (gV r))) rfl d rfl (nI_pos (by omega)) (by rw [hc9]; omega) hcells (by rw [hc9]; exact hslots) fun cA kA comp f1 f2 f3 f4 => ?_
  have hcA : cA = G.2.1 t := by
    obtain ⟨k1, k2, -, -, -, k4⟩ := (hW.2.2.1.2 t _ htl).2
    exact Option.some.inj (f1.symm.trans k4)
  subst hcA
  rw [hc9]
  generalize hH1 : H.push ({ cls := G.2.1 t, slots := Array.replicate N .null, vm := .none } : Cell) = H1
  have z1 : H1.size = H.size + 1 := by rw [← hH1, Array.size_push]
  have e1 : H1[H.size]? = some (arrV (G.2.1 t) N (fun _ => .null)) := by
    rw [← hH1, Array.getElem?_push_size]
    congr 1
    exact arrV_new ..
  have o1 : ∀ q : Nat, q < H.size → H1[q]? = H[q]? := fun q hq => by rw [← hH1, Array.getElem?_push, if_neg (Nat.ne_of_lt hq)]
  have hn9 := hR.new (kd := .inl (t, N, some (some (fun _ => none)))) hL h2 e1 (fun b hb => by obtain ⟨j, hj⟩ := hb; cases hj) z1 o1
  have hre : ∀ x, x ≠ a → va_up r a H.size x = r x := fun x hx => va_up_ne _ _ hx
  have h := kk p e s m args below meth c r0 (va_up r a H.size) H1 locs ls hC (fun x hx => (hre x (fun e => hZa (e ▸ hx))).trans (hZ x hx)) hW hn9 hlo (hls.re (fun x hx => hre x (hno.1 x hx)))
  have hst : (Value.ref a :: st).map (gV (va_up r a H.size)) = .ref H.size :: st.map (gV r) := by
    rw [List.map_cons, gst_re (r := r) (fun x hx => hre x (hno.2 x hx))]
    simp [gV, va_up]
  rw [hst] at h
  exact h
/-- an object of ours into an array of its own class -/
theorem V_aast (q j : Nat) {a b n t ci N9 : Nat} {f : Nat → Option Nat} {C : String} {T9 : u_T} {ty9 : Nat → FieldType} {fs : List (Option Value)} {i : Int32} (hLa : L a = some (.inl (t, n, some (some f)))) (htl : (tyL G.2.1)[t]? = some (G.2.1 t, .object C)) (hLb : L b = some (.inr (ci, fs))) (hc : gCl ci C T9 N9 ty9) (hi : i = nI j) (hj : j < n) (hn : n < 2 ^ 31) (d : decode cc pc = .ok (.aastore, 1)) (hq : pc + 1 = q)
    (kk : V l G y cc nL ret R mc ms Z post (va_up L a (some (.inl (t, n, some (some (va_up f j (some b))))))) M cells slots lv q st) : V l G y cc nL ret R mc ms Z post L M cells slots lv pc (.ref b :: .int i :: .ref a :: st) := by
  subst hq
  subst hi
  intro p e s m args below meth c r0 r H locs ls hC hZ hW hR hlo hls
  have hc9 : (nI j).toNatClampNeg = j := nI_clamp (by omega)
  have hcell : H[r a]? = some (arrV (G.2.1 t) n (fun q => va_rf ((f q).map r))) := (hR.1 a _ hLa).1
  obtain ⟨rC, hrC, cellV, g1, g2, g3, -⟩ := (hR.1 b _ hLb).1
  have hcls := (hW.2.2.1.1 ci _ hc.1).2
  obtain ⟨kA, comp, k1, k2, k3, -⟩ := (hW.2.2.1.2 t _ htl).2
  have hcomp : comp = G.1.1 ci := Option.some.inj (k3.symm.trans hcls.1)
  subst hcomp
  obtain ⟨kC, hkC, -⟩ := hcls.2
  refine W.aast hC.1 hC.2.1 hcell (fun q h => by cases h) (fun h => by cases h) k1 k2 rfl hkC ⟨nI_pos (by omega), by rw [arrV_size, hc9]; exact hj⟩ g1 (fun q h => by rw [g3] at h; cases h) (by rw [g2]; exact hkC) (by rw [g2]; exact va_assign hcls) (g := F0 m pc ls ((Value.ref b :: .int (nI j) :: .ref a :: st).map (gV r))) rfl rfl d fun H' e1 z oq => ?_
  have hup := hR.up (kd' := .inl (t, n, some (some (va_up f j (some b))))) (u' := M a) hLa (show H'[r a]? = some (arrV (G.2.1 t) n (fun q => va_rf (((va_up f j (some b)) q).map r))) by
    rw [e1, arrV_store, hc9]
    congr 2
    funext q
    by_cases hq : q = j
    · subst hq; simp [updV, va_up, va_rf]
    · simp [updV, va_up, hq]) (fun x hx => by
      obtain ⟨q, hq⟩ := hx
      by_cases h9 : q = j
      · subst h9
        rw [va_up_self] at hq
        cases hq
        exact Or.inr (by rw [hLb]; exact fun h => by cases h)
      · rw [va_up_ne _ _ h9] at hq
        exact hR.2.2.1 a _ hLa x ⟨q, hq⟩) z oq
  rw [va_up_id] at hup
  exact kk p e s m args below meth c r0 r H' _ ls hC hZ hW hup (glo hlo (hR.1 a _ hLa).2.1) hls
end gRefs

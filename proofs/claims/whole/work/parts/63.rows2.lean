/-! class objects, and references copied -/
abbrev gcN : MethodName := ⟨"java/lang/Object", "getClass", "()Ljava/lang/Class;"⟩
theorem gc_se : Cond.selects "[Ljava/lang/Object;" gcN gcN ∈ TB := exTb (by decide +kernel)
theorem gc_im : Cond.instanceMethod gcN ∈ TB := exTb (by decide +kernel)
theorem gc_nt : Cond.native gcN ∈ TB := exTb (by decide +kernel)
theorem gc_Ar : Cond.methodLink "java/util/Arrays" 86 gcN ∈ TB := exTb (by decide +kernel)
/-- what is known of the class object of arrays of objects: it lies at place 1 -/
def gMi1 (G : gG) : Prop := gHe G (fun U => va_Mi "[Ljava/lang/Object;" (G.2.2.2.2.1 1) U)
section gRows2
variable {l : Launch} {G : gG} {y : MethodName} {cc : ByteArray} {nL : Nat} {ret : Option FieldType} {R : Room} {mc ms : Nat} {Z : Nat → Prop} {post : Option Value → gLy → gMe → Prop} {L : gLy} {M : gMe} {cells slots : Nat} {lv : List (Option Value)} {pc : Nat} {st : List Value}
theorem V_acmpneS (q : Nat) {a t : Nat} {off : Int} (d : decode cc pc = .ok (.if_acmp .ne off, 3)) (ht : (pc : Int) + off = (t : Int)) (hq : pc + 3 = q) (kk : V l G y cc nL ret R mc ms Z post L M cells slots lv q st) : V l G y cc nL ret R mc ms Z post L M cells slots lv pc (.ref a :: .ref a :: st) := by
  subst hq
  intro p e s m args below meth c r0 r H locs ls hC hZ hW hR hlo hls
  exact lv_acmp_ne (rx := some (r a)) (ry := some (r a)) hC.1 hC.2.1 d ht (fun h => absurd rfl h) (fun _ => kk p e s m args below meth c r0 r H locs ls hC hZ hW hR hlo hls)
theorem V_ldcM (q : Nat) {index : Nat} (hmi : gMi1 G) (hl : Cond.classLink y.cls index "[Ljava/lang/Object;" ∈ TB) (d : decode cc pc = .ok (.ldc index, 2)) (hq : pc + 2 = q)
    (kk : V l G y cc nL ret R mc ms Z post L M cells slots lv q (.ref 1 :: st)) : V l G y cc nL ret R mc ms Z post L M cells slots lv pc st := by
  subst hq
  intro p e s m args below meth c r0 r H locs ls hC hZ hW hR hlo hls
  have hM : va_Mi "[Ljava/lang/Object;" (G.2.2.2.2.1 1) s := va_Mi.moved (u := { s with heap := H }) (U := s) (State.WarmedH.refl s).alike (hmi s { s with heap := H } hW.2.2.2.1 (State.WarmedH.refl s) hR.2.2.2.2.1 hR.2.2.2.2.2)
  have h := kk p e s m args below meth c r0 r H locs ls hC hZ hW hR hlo hls
  rw [show (Value.ref 1 :: st).map (gV r) = .ref (G.2.2.2.2.1 1) :: st.map (gV r) from by rw [List.map_cons]; exact congrArg (fun z => Value.ref z :: st.map (gV r)) (hR.2.2.2.1 1 (by decide))] at h
  exact va_ldcM hC.1 hC.2.1 hC.2.2.2.2.1 (hW.t hl) hM d h
theorem V_getC (q : Nat) {a n index : Nat} {f : Nat → Option Nat} (hmi : gMi1 G) (hdc : gHe G (fun U => va_Dc U)) (hLa : L a = some (.inl (4, n, some (some f)))) (hl : Cond.methodLink y.cls index gcN ∈ TB) (hfr : 1 ≤ R.frames) (hlc : (st.map fun v => v.category).sum + 14 ≤ R.locals) (d : decode cc pc = .ok (.invokevirtual index, 3)) (hq : pc + 3 = q)
    (kk : V l G y cc nL ret R mc ms Z post L M cells slots lv q (.ref 1 :: st)) : V l G y cc nL ret R mc ms Z post L M cells slots lv pc (.ref a :: st) := by
  subst hq
  intro p e s m args below meth c r0 r H locs ls hC hZ hW hR hlo hls
  have hM : va_Mi "[Ljava/lang/Object;" (G.2.2.2.2.1 1) s := va_Mi.moved (u := { s with heap := H }) (U := s) (State.WarmedH.refl s).alike (hmi s { s with heap := H } hW.2.2.2.1 (State.WarmedH.refl s) hR.2.2.2.2.1 hR.2.2.2.2.2)
  have hD : va_Dc s := va_Dc.moved (u := { s with heap := H }) (U := s) (State.WarmedH.refl s).alike (hdc s { s with heap := H } hW.2.2.2.1 (State.WarmedH.refl s) hR.2.2.2.2.1 hR.2.2.2.2.2)
  have hcell : H[r a]? = some (arrV (G.2.1 4) n (fun q => va_rf ((f q).map r))) := (hR.1 a _ hLa).1
  have hnm : s.vm.findClass "[Ljava/lang/Object;" = some (G.2.1 4) := va_nmO (C := "java/lang/Object") (hW.2.2.1.2 4 _ rfl).2 (by decide)
  have h := kk p e s m args below meth c r0 r H locs ls hC hZ hW hR hlo hls
  rw [show (Value.ref 1 :: st).map (gV r) = .ref (G.2.2.2.2.1 1) :: st.map (gV r) from by rw [List.map_cons]; exact congrArg (fun z => Value.ref z :: st.map (gV r)) (hR.2.2.2.1 1 (by decide))] at h
  exact va_getC hC.1 hC.2.1 (hC.2.2.2.1.trans hls.1.1.symm) hC.2.2.2.2.1 (hW.t hl) (va_Dc.use hD) (hW.t gc_se) (hW.t gc_im) (hW.t gc_nt) hM ⟨_, hcell, rfl, hnm⟩ hfr (by rw [gcat]; exact hlc) d h
/-- an object of ours into an array of objects -/
theorem V_aastO (q j : Nat) {a b n t ci N9 : Nat} {f : Nat → Option Nat} {C E : String} {T9 : u_T} {ty9 : Nat → FieldType} {fs : List (Option Value)} {i : Int32} (hLa : L a = some (.inl (t, n, some (some f)))) (htl : (tyL G.2.1)[t]? = some (G.2.1 t, .object E)) (hLb : L b = some (.inr (ci, fs))) (hc : gCl ci C T9 N9 ty9) (hca : Cond.castable C E ∈ NB) (hi : i = nI j) (hj : j < n) (hn : n < 2 ^ 31) (d : decode cc pc = .ok (.aastore, 1)) (hq : pc + 1 = q)
    (kk : V l G y cc nL ret R mc ms Z post (va_up L a (some (.inl (t, n, some (some (va_up f j (some b))))))) M cells slots lv q st) : V l G y cc nL ret R mc ms Z post L M cells slots lv pc (.ref b :: .int i :: .ref a :: st) := by
  subst hq
  subst hi
  intro p e s m args below meth c r0 r H locs ls hC hZ hW hR hlo hls
  have hc9 : (nI j).toNatClampNeg = j := nI_clamp (by omega)
  have hcell : H[r a]? = some (arrV (G.2.1 t) n (fun q => va_rf ((f q).map r))) := (hR.1 a _ hLa).1
  obtain ⟨rC, hrC, cellV, g1, g2, g3, -⟩ := (hR.1 b _ hLb).1
  have hcls := (hW.2.2.1.1 ci _ hc.1).2
  obtain ⟨kA, comp, k1, k2, k3, -⟩ := (hW.2.2.1.2 t _ htl).2
  obtain ⟨kE, hkE, -⟩ := Vm.findClass_spec k3
  obtain ⟨c0, t1, f1, f2, f3⟩ := Cond.castable_spec (va_Nw.use (A := args) rfl (hW.2.1 _ hca))
  cases hcls.1.symm.trans f1
  cases k3.symm.trans f2
  obtain ⟨kC, hkC, -⟩ := hcls.2
  refine W.aast hC.1 hC.2.1 hcell (fun q h => by cases h) (fun h => by cases h) k1 k2 rfl hkE ⟨nI_pos (by omega), by rw [arrV_size, hc9]; exact hj⟩ g1 (fun q h => by rw [g3] at h; cases h) (by rw [g2]; exact hkC) (by rw [g2]; exact f3) (g := F0 m pc ls ((Value.ref b :: .int (nI j) :: .ref a :: st).map (gV r))) rfl rfl d fun H' e1 z oq => ?_
  have hup := hR.up (kd' := .inl (t, n, some (some (va_up f j (some b))))) (u' := M a) hLa (show H'[r a]? = some (arrV (G.2.1 t) n (fun q => va_rf (((va_up f j (some b)) q).map r))) by
    rw [e1, arrV_store, hc9]
    congr 2
    funext q
    by_cases hq : q = j
    · subst hq; simp [updV, va_up, va_rf]
    · simp [updV, va_up, hq]) (fun x hx => by
      obtain ⟨q, hq⟩ := hx
      by_cases h9 : q = j
      · subst h9
        rw [va_up_self] at hq
        cases hq
        exact Or.inr (by rw [hLb]; exact fun h => by cases h)
      · rw [va_up_ne _ _ h9] at hq
        exact hR.2.2.1 a _ hLa x ⟨q, hq⟩) z oq
  rw [va_up_id] at hup
  exact kk p e s m args below meth c r0 r H' _ ls hC hZ hW hup (glo hlo (hR.1 a _ hLa).2.1) hls
/-- references of one class copied, from the first places on -/
theorem V_copyq (q k : Nat) {a0 a n0 n1 index t0 t1 ci N9 : Nat} {f g : Nat → Option Nat} {C E0 E : String} {T9 : u_T} {ty9 : Nat → FieldType} {n : Int32} (hL0 : L a0 = some (.inl (t0, n0, some (some f)))) (hL1 : L a = some (.inl (t1, n1, some (some g)))) (ht0 : (tyL G.2.1)[t0]? = some (G.2.1 t0, .object E0)) (ht1 : (tyL G.2.1)[t1]? = some (G.2.1 t1, .object E)) (hc : gCl ci C T9 N9 ty9) (hca : Cond.castable C E ∈ NB) (hel : ∀ i b, i < k → f i = some b → ∃ fs, L b = some (.inr (ci, fs))) (hn : n = nI k) (hk0 : k ≤ n0) (hk1 : k ≤ n1) (hk : k < 2 ^ 31) (hl : Cond.methodLink y.cls index arraycopyName ∈ TB) (hfr : 1 ≤ R.frames) (hlc : (st.map fun v => v.category).sum + (nativeFrameWords "java/lang/System" "arraycopy" 5 + 11) ≤ R.locals) (d : decode cc pc = .ok (.invokestatic index, 3)) (hq : pc + 3 = q)
    (kk : V l G y cc nL ret R mc ms Z post (va_up L a (some (.inl (t1, n1, some (some (va_cpy f g 0 0 k)))))) M cells slots lv q st) : V l G y cc nL ret R mc ms Z post L M cells slots lv pc (.int n :: .int 0 :: .ref a :: .int 0 :: .ref a0 :: st) := by
  subst hq
  subst hn
  intro p e s m args below meth c r0 r H locs ls hC hZ hW hR hlo hls
  have hkc : (nI k).toNatClampNeg = k := nI_clamp hk
  have hkt : (nI k).toInt = (k : Int) := nI_toInt hk
  have h0c : (0 : Int32).toNatClampNeg = 0 := by decide
  have h0t : (0 : Int32).toInt = 0 := by decide
  have hcls := (hW.2.2.1.1 ci _ hc.1).2
  obtain ⟨kA, comp, r1, r2, r3, -⟩ := (hW.2.2.1.2 t1 _ ht1).2
  obtain ⟨kE, hkE, -⟩ := Vm.findClass_spec r3
  obtain ⟨c0, tE, f1, f2, f3⟩ := Cond.castable_spec (va_Nw.use (A := args) rfl (hW.2.1 _ hca))
  cases hcls.1.symm.trans f1
  cases r3.symm.trans f2
  obtain ⟨kC, hkC, -⟩ := hcls.2
  intro T hT X
  have hc0 : H[r a0]? = some (arrV (G.2.1 t0) n0 (fun j => va_rf ((f j).map r))) := (hR.1 a0 _ hL0).1
  have hc1 : H[r a]? = some (arrV (G.2.1 t1) n1 (fun j => va_rf ((g j).map r))) := (hR.1 a _ hL1).1
  obtain ⟨-, k0, hk0', cm0, hkk0⟩ := (hW.2.2.1.2 t0 _ ht0).1 n0 (fun j => va_rf ((f j).map r))
  obtain ⟨-, k1, hk1', cm1, hkk1⟩ := (hW.2.2.1.2 t1 _ ht1).1 n1 (fun j => va_rf ((g j).map r))
  cases hk1'.symm.trans r1
  cases hkk1.symm.trans r2
  obtain ⟨vm', X', step⟩ := X.arraycopy hC.1 hC.2.2.2.2.1 (hW.t hl) (hW.t sy_nt) (hW.t sy_st) (hW.t sy_in) (src := r a0) (dst := r a) (cs := arrV (G.2.1 t0) n0 (fun j => va_rf ((f j).map r))) (cd := arrV (G.2.1 t1) n1 (fun j => va_rf ((g j).map r))) (srcPos := 0) (destPos := 0) (n := nI k) (by rw [hT]; exact hc0) (by rw [hT]; exact hc1)
    (fun _ h => by cases h) (fun _ h => by cases h) (fun h => by cases h) (fun h => by cases h) hk0' hk1' hkk0 hkk1 rfl (by decide) (by decide) (nI_pos hk)
    (by rw [h0t, hkt, arrV_size]; omega)
    (by rw [h0t, hkt, arrV_size]; omega)
    (fun vm₁ hal i hi => by
      rw [hkc] at hi
      have e : (arrV (G.2.1 t0) n0 (fun j => va_rf ((f j).map r))).slots.getD ((0 : Int32).toNatClampNeg + i) .null = va_rf ((f i).map r) := by
        rw [h0c, Nat.zero_add, Array.getD_eq_getD_getElem?, arrV_read _ _ (by omega)]
        rfl
      rw [e]
      cases hy : f i with
      | none => exact ⟨rfl, trivial⟩
      | some b =>
        obtain ⟨fs, hLb⟩ := hel i b hi hy
        obtain ⟨rC, hrC, cellV, g1, g2, g3, -⟩ := (hR.1 b _ hLb).1
        obtain ⟨kC', hkC', -⟩ := hal.2.2 _ _ hkC
        obtain ⟨kE', hkE', -⟩ := hal.2.2 _ _ hkE
        refine ⟨rfl, cellV, (show T.heap[r b]? = some cellV by rw [hT]; exact g1), (fun q h => by rw [g3] at h; cases h), ⟨kC', by rw [g2]; exact hkC'⟩, ⟨kE', hkE'⟩, ?_⟩
        show vm₁.assignable _ _ = true
        rw [hal.assignable, g2]
        exact f3)
    (g := F0 m pc ls ((Value.int (nI k) :: .int 0 :: .ref a :: .int 0 :: .ref a0 :: st).map (gV r))) rfl (by rw [hC.2.2.2.1]; exact hls.1.1) (rest := st.map (gV r)) rfl (by rw [hC.2.1]; exact d) hfr (by
      have h9 : (F0 m pc ls ((Value.int (nI k) :: .int 0 :: .ref a :: .int 0 :: .ref a0 :: st).map (gV r))).monitorRoom = 0 := rfl
      rw [h9, gcat]; omega)
  have e1 : copied (arrV (G.2.1 t0) n0 (fun j => va_rf ((f j).map r))) (arrV (G.2.1 t1) n1 (fun j => va_rf ((g j).map r))) 0 0 (nI k) = arrV (G.2.1 t1) n1 (fun j => va_rf ((va_cpy f g 0 0 k j).map r)) := by
    have h := va_copied (sp := 0) (dp := 0) (n := k) (fun z => va_rf (z.map r)) (G.2.1 t0) (G.2.1 t1) (n0 := n0) (n1 := n1) f g (by omega)
    unfold copied
    rw [h0c, hkc]
    exact h
  rw [e1] at X' step
  have hl9 : r a < H.size := (Array.getElem?_eq_some_iff.mp hc1).1
  have hheap : ((T.setVm vm').setCell (r a) (arrV (G.2.1 t1) n1 (fun j => va_rf ((va_cpy f g 0 0 k j).map r)))).heap = H.setIfInBounds (r a) (arrV (G.2.1 t1) n1 (fun j => va_rf ((va_cpy f g 0 0 k j).map r))) := by rw [← hT]; rfl
  have oq : ∀ q : Nat, q ≠ r a → (H.setIfInBounds (r a) (arrV (G.2.1 t1) n1 (fun j => va_rf ((va_cpy f g 0 0 k j).map r))))[q]? = H[q]? := fun q hq => by simp [Array.getElem?_setIfInBounds, Ne.symm hq]
  have hup := hR.up (H' := H.setIfInBounds (r a) (arrV (G.2.1 t1) n1 (fun j => va_rf ((va_cpy f g 0 0 k j).map r)))) (kd' := .inl (t1, n1, some (some (va_cpy f g 0 0 k)))) (u' := M a) hL1 (show (H.setIfInBounds (r a) _)[r a]? = some _ by simp [Array.getElem?_setIfInBounds, hl9]; rfl) (fun x hx => by
      obtain ⟨q, hq⟩ := hx
      unfold va_cpy at hq
      split at hq
      · exact hR.2.2.1 a0 _ hL0 x ⟨_, hq⟩
      · exact hR.2.2.1 a _ hL1 x ⟨_, hq⟩) (by simp) oq
  rw [va_up_id] at hup
  obtain ⟨t, a1, b1⟩ := kk p e s m args below meth c r0 r _ _ ls hC hZ hW hup (fun q hq => by
      rcases List.mem_append.mp hq with h | h
      · exact hlo q h
      · obtain ⟨z, -, hz⟩ := List.mem_map.mp h
        rw [← hz]
        exact (hR.1 a _ hL1).2.1) hls _ hheap X'
  exact ⟨t, step t a1, b1⟩
end gRows2

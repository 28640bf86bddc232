/-! System.arraycopy of ints, from the first places on -/
theorem sy_nt : Cond.native arraycopyName ∈ TB := tb3 21 rfl rfl
theorem sy_st : Cond.static arraycopyName ∈ TB := tb3 20 rfl rfl
theorem sy_in : Cond.initialized "java/lang/System" ∈ TB := tb1 23 rfl rfl
theorem sy_Pf : Cond.methodLink "ProofGate$Proof" 25 arraycopyName ∈ TB := tb3 19 rfl rfl
theorem sy_Ar : Cond.methodLink "java/util/Arrays" 150 arraycopyName ∈ TB := tb4 56 rfl rfl
section gCopy
variable {l : Launch} {G : gG} {y : MethodName} {cc : ByteArray} {nL : Nat} {ret : Option FieldType} {R : Room} {mc ms : Nat} {Z : Nat → Prop} {post : Option Value → gLy → gMe → Prop} {L : gLy} {M : gMe} {cells slots : Nat} {lv : List (Option Value)} {pc : Nat} {st : List Value}
theorem V_copyi (q k : Nat) {a0 a n0 n1 index : Nat} {n : Int32} (hL0 : L a0 = some (.inl (0, n0, none))) (hL1 : L a = some (.inl (0, n1, none))) (hn : n = nI k) (hk0 : k ≤ n0) (hk1 : k ≤ n1) (hk : k < 2 ^ 31) (hl : Cond.methodLink y.cls index arraycopyName ∈ TB) (hfr : 1 ≤ R.frames) (hlc : (st.map fun v => v.category).sum + (nativeFrameWords "java/lang/System" "arraycopy" 5 + 11) ≤ R.locals) (d : decode cc pc = .ok (.invokestatic index, 3)) (hq : pc + 3 = q)
    (kk : V l G y cc nL ret R mc ms Z post L (va_up M a (va_cpy (M a0) (M a) 0 0 k)) cells slots lv q st) : V l G y cc nL ret R mc ms Z post L M cells slots lv pc (.int n :: .int 0 :: .ref a :: .int 0 :: .ref a0 :: st) := by
  subst hq
  subst hn
  intro p e s m args below meth c r0 r H locs ls hC hZ hW hR hlo hls
  have hkc : (nI k).toNatClampNeg = k := nI_clamp hk
  have hkt : (nI k).toInt = (k : Int) := nI_toInt hk
  have h0c : (0 : Int32).toNatClampNeg = 0 := by decide
  have h0t : (0 : Int32).toInt = 0 := by decide
  intro T hT X
  have hc0 : H[r a0]? = some (arrV (G.2.1 0) n0 (fun j => .int (M a0 j))) := (hR.1 a0 _ hL0).1
  have hc1 : H[r a]? = some (arrV (G.2.1 0) n1 (fun j => .int (M a j))) := (hR.1 a _ hL1).1
  obtain ⟨-, k0, hk0', cm0, hkk0⟩ := (hW.2.2.1.2 0 _ rfl).1 n0 (fun j => .int (M a0 j))
  obtain ⟨-, k1, hk1', cm1, hkk1⟩ := (hW.2.2.1.2 0 _ rfl).1 n1 (fun j => .int (M a j))
  obtain ⟨vm', X', step⟩ := X.arraycopy hC.1 hC.2.2.2.2.1 (hW.t hl) (hW.t sy_nt) (hW.t sy_st) (hW.t sy_in) (src := r a0) (dst := r a) (cs := arrV (G.2.1 0) n0 (fun j => .int (M a0 j))) (cd := arrV (G.2.1 0) n1 (fun j => .int (M a j))) (srcPos := 0) (destPos := 0) (n := nI k) (by rw [hT]; exact hc0) (by rw [hT]; exact hc1)
    (fun _ h => by cases h) (fun _ h => by cases h) (fun h => by cases h) (fun h => by cases h) hk0' hk1' hkk0 hkk1 (by simp [refKind]) (by decide) (by decide) (nI_pos hk)
    (by rw [h0t, hkt, arrV_size]; omega)
    (by rw [h0t, hkt, arrV_size]; omega)
    (fun vm₁ _ i hi => by
      rw [hkc] at hi
      have e : (arrV (G.2.1 0) n0 (fun j => Value.int (M a0 j))).slots.getD ((0 : Int32).toNatClampNeg + i) .null = .int (M a0 i) := by
        rw [h0c, Nat.zero_add, Array.getD_eq_getD_getElem?, arrV_read _ _ (by omega)]
        rfl
      refine ⟨?_, ?_⟩
      · rw [e]; rfl
      · rw [e]; exact trivial)
    (g := F0 m pc ls ((Value.int (nI k) :: .int 0 :: .ref a :: .int 0 :: .ref a0 :: st).map (gV r))) rfl (by rw [hC.2.2.2.1]; exact hls.1.1) (rest := st.map (gV r)) rfl (by rw [hC.2.1]; exact d) hfr (by
      have h9 : (F0 m pc ls ((Value.int (nI k) :: .int 0 :: .ref a :: .int 0 :: .ref a0 :: st).map (gV r))).monitorRoom = 0 := rfl
      rw [h9, gcat]; omega)
  have e1 : copied (arrV (G.2.1 0) n0 (fun j => .int (M a0 j))) (arrV (G.2.1 0) n1 (fun j => .int (M a j))) 0 0 (nI k) = arrV (G.2.1 0) n1 (fun j => .int (va_cpy (M a0) (M a) 0 0 k j)) := by
    have h := va_copied (sp := 0) (dp := 0) (n := k) (fun z => Value.int z) (G.2.1 0) (G.2.1 0) (n0 := n0) (n1 := n1) (M a0) (M a) (by omega)
    unfold copied
    rw [h0c, hkc]
    exact h
  rw [e1] at X' step
  have hl9 : r a < H.size := (Array.getElem?_eq_some_iff.mp hc1).1
  have hheap : ((T.setVm vm').setCell (r a) (arrV (G.2.1 0) n1 (fun j => .int (va_cpy (M a0) (M a) 0 0 k j)))).heap = H.setIfInBounds (r a) (arrV (G.2.1 0) n1 (fun j => .int (va_cpy (M a0) (M a) 0 0 k j))) := by rw [← hT]; rfl
  have oq : ∀ q : Nat, q ≠ r a → (H.setIfInBounds (r a) (arrV (G.2.1 0) n1 (fun j => .int (va_cpy (M a0) (M a) 0 0 k j))))[q]? = H[q]? := fun q hq => by simp [Array.getElem?_setIfInBounds, Ne.symm hq]
  have hR' := hR.upM (H' := H.setIfInBounds (r a) (arrV (G.2.1 0) n1 (fun j => .int (va_cpy (M a0) (M a) 0 0 k j)))) (u' := va_cpy (M a0) (M a) 0 0 k) hL1 (show (H.setIfInBounds (r a) _)[r a]? = some _ by simp [Array.getElem?_setIfInBounds, hl9]; rfl) (by simp) oq
  obtain ⟨t, a1, b1⟩ := kk p e s m args below meth c r0 r _ _ ls hC hZ hW hR' (fun q hq => by
      rcases List.mem_append.mp hq with h | h
      · exact hlo q h
      · obtain ⟨z, -, hz⟩ := List.mem_map.mp h
        rw [← hz]
        exact (hR.1 a _ hL1).2.1) hls _ hheap X'
  exact ⟨t, step t a1, b1⟩
end gCopy

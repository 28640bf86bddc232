/-! what is known where the law begins -/
section gHes
variable {s : State} {D : va_G} {dA : Nat → ClassId} {sA : Nat → Nat}
/-- the law's start as a world -/
def gS (s : State) (D : va_G) (dA : Nat → ClassId) (sA : Nat → Nat) : gG := (D, dA, s.heap.size, s.heap, sA, fun U => s.WarmedH U.vm)
theorem gHe_of {P : State → Prop} (h : ∀ U : State, s.WarmedH U.vm → s.heap.size ≤ U.heap.size → (∀ q : Nat, q < s.heap.size → U.heap[q]? = s.heap[q]?) → P U) : gHe (gS s D dA sA) P := fun U U' h1 h2 h3 h4 => h U' (State.WarmedH.trans h1 h2) h3 h4
theorem gHe_Z {C n d : String} {v : Value} (h : va_Z C n d v (fun q => s.heap.size ≤ q) s s.heap) : gHe (gS s D dA sA) (fun U => va_Z C n d v (fun q => s.heap.size ≤ q) U U.heap) := gHe_of (fun U hW hz hq => (va_Z.moved hW.alike h).kept (fun a ha _ => hq a ha))
theorem gHe_T {ty : FieldType} {t N : Nat} {f : Nat → Value} (h : va_T ty t N f (fun q => s.heap.size ≤ q) s s.heap) : gHe (gS s D dA sA) (fun U => va_T ty t N f (fun q => s.heap.size ≤ q) U U.heap) := gHe_of (fun U hW hz hq => (va_T.moved hW.alike h).kept (fun a ha _ => hq a ha))
theorem lays_kept {U : State} {A A' : Array Value} {O n d : String} (hvm : s.vm.Alike U.vm) (hq : ∀ q : Nat, q < s.heap.size → U.heap[q]? = s.heap[q]?) (h : (Cond.laysStatic O n d).before A s = true) : (Cond.laysStatic O n d).before A' U = true := by
  obtain ⟨c, k, i, f, a, cell, hc, hi, hst, ha, hcell, hs, hcls, hlt, hty⟩ := Cond.laysStatic_spec h
  obtain ⟨k', hi', hek⟩ := State.fieldFound?_setVm hvm hi
  exact Cond.laysStatic_of (s := U) (by rw [hvm.findClass]; exact hc) hi' hst (by rw [hek]; exact ha) (by rw [hq a (Array.getElem?_eq_some_iff.mp hcell).1]; exact hcell) hs hcls hlt (by rw [hek]; exact hty)
theorem ref_kept {U : State} {A A' : Array Value} {O n d : String} (hvm : s.vm.Alike U.vm) (hq : ∀ q : Nat, q < s.heap.size → U.heap[q]? = s.heap[q]?) (hl : (Cond.laysStatic O n d).before A s = true) (h : (Cond.isRef (.static O n d)).before A s = true) : (Cond.isRef (.static O n d)).before A' U = true := by
  obtain ⟨c, k, i, f, a, cell, hc, hi, hst, ha, hcell, hs, hcls, hlt, hty⟩ := Cond.laysStatic_spec hl
  obtain ⟨v, hv, hr⟩ := Cond.isRef_spec h
  obtain ⟨-, a', cell', ha', hcell', -, hslot⟩ := Term.static_spec hi hv
  cases ha.symm.trans ha'
  cases hcell.symm.trans hcell'
  obtain ⟨k', hi', hek⟩ := State.fieldFound?_setVm hvm hi
  have hev : (Term.static O n d).eval A' U none [] U = some v := Term.static_eval (s := U) hi' hst (by rw [hek]; exact ha) (by rw [hq a (Array.getElem?_eq_some_iff.mp hcell).1]; exact hcell) hs hslot
  simp only [Cond.before, Cond.holds, Cond.value, hev]
  cases v <;> first | rfl | (exact absurd hr (by simp [Value.isRef]))
theorem decl_kept {U : State} {A A' : Array Value} {x : MethodName} (hvm : s.vm.Alike U.vm) (h : (Cond.declares x).before A s = true) : (Cond.declares x).before A' U = true := by
  have h1 : (Cond.declares x).before A (s.setVm U.vm) = true := by rw [Cond.declares_setVm hvm]; exact h
  exact va_tabs rfl (rfl : (s.setVm U.vm).vm = U.vm) h1
theorem ncast_kept {U : State} {A A' : Array Value} {C T : String} (hvm : s.vm.Alike U.vm) (h : (Cond.not (.castable C T)).before A s = true) : (Cond.not (.castable C T)).before A' U = true := by
  simp only [Cond.before, Cond.holds, Cond.value] at h ⊢
  simp only [hvm.findClass, hvm.assignable]
  exact h
end gHes

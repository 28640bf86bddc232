theorem mn_co : Cond.code Lib.Math.min.name Lib.Math.min.code 2 (some .int) ∈ TB := tb2 223 rfl rfl
theorem mn_st : Cond.static Lib.Math.min.name ∈ TB := tb2 222 rfl rfl
theorem mn_in : Cond.initialized "java/lang/Math" ∈ TB := tb1 22 rfl rfl
theorem mn_Pv : Cond.methodLink "ProofGate$Prover" 143 Lib.Math.min.name ∈ TB := tb2 221 rfl rfl
theorem mn_Ck : Cond.methodLink "ProofGate$Checker" 105 Lib.Math.min.name ∈ TB := tb3 66 rfl rfl
theorem mn_Ar : Cond.methodLink "java/util/Arrays" 304 Lib.Math.min.name ∈ TB := tb4 55 rfl rfl
theorem mx_co : Cond.code Lib.Math.max.name Lib.Math.max.code 2 (some .int) ∈ TB := tb4 22 rfl rfl
theorem mx_st : Cond.static Lib.Math.max.name ∈ TB := tb4 21 rfl rfl
theorem mx_As : Cond.methodLink "jdk/internal/util/ArraysSupport" 194 Lib.Math.max.name ∈ TB := tb4 20 rfl rfl
theorem mx_AL : Cond.methodLink "java/util/ArrayList" 79 Lib.Math.max.name ∈ TB := tb4 57 rfl rfl
section gMin
variable {l : Launch} {G : gG} {y : MethodName} {cc : ByteArray} {nL : Nat} {ret : Option FieldType} {R : Room} {mc ms : Nat} {Z : Nat → Prop} {post : Option Value → gLy → gMe → Prop} {L : gLy} {M : gMe} {cells slots : Nat} {lv : List (Option Value)} {pc : Nat} {st : List Value}
theorem V_mmin (q : Nat) {index : Nat} {x z : Int32} (hl : Cond.methodLink y.cls index Lib.Math.min.name ∈ TB) (hfr : 1 ≤ R.frames) (hlc : (st.map fun v => v.category).sum + 13 ≤ R.locals) (hc : cells ≤ R.cells) (hsl : slots ≤ R.slots) (d : decode cc pc = .ok (.invokestatic index, 3)) (hq : pc + 3 = q)
    (kk : V l G y cc nL ret R mc ms Z post L M cells slots lv q (.int (if z < x then z else x) :: st)) : V l G y cc nL ret R mc ms Z post L M cells slots lv pc (.int z :: .int x :: st) := by
  subst hq
  intro p e s m args below meth c r0 r H locs ls hC hZ hW hR hlo hls
  exact va_mmin hC.1 hC.2.1 (hC.2.2.2.1.trans hls.1.1.symm) hC.2.2.2.2.1 (hW.t hl) (hW.t mn_st) (hW.t mn_in) (hW.t mn_co) hfr (by rw [gcat]; exact hlc) hc hsl d (kk p e s m args below meth c r0 r H locs ls hC hZ hW hR hlo hls)
theorem V_mmax (q : Nat) {index : Nat} {x z : Int32} (hl : Cond.methodLink y.cls index Lib.Math.max.name ∈ TB) (hfr : 1 ≤ R.frames) (hlc : (st.map fun v => v.category).sum + 13 ≤ R.locals) (hc : cells ≤ R.cells) (hsl : slots ≤ R.slots) (d : decode cc pc = .ok (.invokestatic index, 3)) (hq : pc + 3 = q)
    (kk : V l G y cc nL ret R mc ms Z post L M cells slots lv q (.int (if x < z then z else x) :: st)) : V l G y cc nL ret R mc ms Z post L M cells slots lv pc (.int z :: .int x :: st) := by
  subst hq
  intro p e s m args below meth c r0 r H locs ls hC hZ hW hR hlo hls
  exact va_mmax hC.1 hC.2.1 (hC.2.2.2.1.trans hls.1.1.symm) hC.2.2.2.2.1 (hW.t hl) (hW.t mx_st) (hW.t mn_in) (hW.t mx_co) hfr (by rw [gcat]; exact hlc) hc hsl d (kk p e s m args below meth c r0 r H locs ls hC hZ hW hR hlo hls)
end gMin

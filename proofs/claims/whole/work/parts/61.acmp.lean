/-! references compared -/
section gAcmp
variable {l : Launch} {G : gG} {y : MethodName} {cc : ByteArray} {nL : Nat} {ret : Option FieldType} {R : Room} {mc ms : Nat} {Z : Nat → Prop} {post : Option Value → gLy → gMe → Prop} {L : gLy} {M : gMe} {cells slots : Nat} {lv : List (Option Value)} {pc : Nat} {st : List Value}
/-- the same place: equal -/
theorem V_acmpeqS (t : Nat) {a : Nat} {off : Int} (d : decode cc pc = .ok (.if_acmp .eq off, 3)) (ht : (pc : Int) + off = (t : Int)) (kk : V l G y cc nL ret R mc ms Z post L M cells slots lv t st) : V l G y cc nL ret R mc ms Z post L M cells slots lv pc (.ref a :: .ref a :: st) := by
  intro p e s m args below meth c r0 r H locs ls hC hZ hW hR hlo hls
  exact lv_acmp_eq (rx := some (r a)) (ry := some (r a)) hC.1 hC.2.1 d ht (fun _ => kk p e s m args below meth c r0 r H locs ls hC hZ hW hR hlo hls) (fun h => absurd rfl h)
/-- another place than a cell of ours: unequal -/
theorem V_acmpeqN (q : Nat) {a b : Nat} {off : Int} {t : Nat} (d : decode cc pc = .ok (.if_acmp .eq off, 3)) (ht : (pc : Int) + off = (t : Int)) (hL : L b ≠ none) (hab : a ≠ b) (ha : L a ≠ none) (hq : pc + 3 = q) (kk : V l G y cc nL ret R mc ms Z post L M cells slots lv q st) : V l G y cc nL ret R mc ms Z post L M cells slots lv pc (.ref a :: .ref b :: st) := by
  subst hq
  intro p e s m args below meth c r0 r H locs ls hC hZ hW hR hlo hls
  refine lv_acmp_eq (rx := some (r b)) (ry := some (r a)) hC.1 hC.2.1 d ht (fun h => ?_) (fun _ => kk p e s m args below meth c r0 r H locs ls hC hZ hW hR hlo hls)
  exact absurd (hR.2.1 b a hL ha (Option.some.inj h)) (Ne.symm hab)
end gAcmp

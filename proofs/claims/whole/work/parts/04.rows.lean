section gRows
variable {l : Launch} {G : gG} {y : MethodName} {cc : ByteArray} {nL : Nat} {ret : Option FieldType} {R : Room} {mc ms : Nat} {Z : Nat → Prop} {post : Option Value → gLy → gMe → Prop} {L : gLy} {M : gMe} {cells slots : Nat} {lv : List (Option Value)} {pc : Nat} {st : List Value}
theorem V_iconst (q : Nat) {n : Int} {v : Int32} (hv : Int32.ofInt n = v) (d : decode cc pc = .ok (.iconst n, 1)) (hq : pc + 1 = q) (k : V l G y cc nL ret R mc ms Z post L M cells slots lv q (.int v :: st)) : V l G y cc nL ret R mc ms Z post L M cells slots lv pc (st) := by
  subst hq
  intro p e s m args below meth c r0 r H locs ls hC hZ hW hR hlo hls
  exact lv_iconst hC.1 hC.2.1 d hv (k p e s m args below meth c r0 r H locs ls hC hZ hW hR hlo hls)
theorem V_bipush (q : Nat) {n : Int} {v : Int32} (hv : (Int8.ofInt n).toInt32 = v) (d : decode cc pc = .ok (.bipush n, 2)) (hq : pc + 2 = q) (k : V l G y cc nL ret R mc ms Z post L M cells slots lv q (.int v :: st)) : V l G y cc nL ret R mc ms Z post L M cells slots lv pc (st) := by
  subst hq
  intro p e s m args below meth c r0 r H locs ls hC hZ hW hR hlo hls
  exact lv_bipush hC.1 hC.2.1 d hv (k p e s m args below meth c r0 r H locs ls hC hZ hW hR hlo hls)
theorem V_sipush (q : Nat) {n : Int} {v : Int32} (hv : (Int16.ofInt n).toInt32 = v) (d : decode cc pc = .ok (.sipush n, 3)) (hq : pc + 3 = q) (k : V l G y cc nL ret R mc ms Z post L M cells slots lv q (.int v :: st)) : V l G y cc nL ret R mc ms Z post L M cells slots lv pc (st) := by
  subst hq
  intro p e s m args below meth c r0 r H locs ls hC hZ hW hR hlo hls
  exact lv_sipush hC.1 hC.2.1 d hv (k p e s m args below meth c r0 r H locs ls hC hZ hW hR hlo hls)
theorem V_lconst (q : Nat) {n : Fin 2} {v : Int64} (hv : Int64.ofNat (n : Nat) = v) (d : decode cc pc = .ok (.lconst n, 1)) (hq : pc + 1 = q) (k : V l G y cc nL ret R mc ms Z post L M cells slots lv q (.long v :: st)) : V l G y cc nL ret R mc ms Z post L M cells slots lv pc (st) := by
  subst hq
  intro p e s m args below meth c r0 r H locs ls hC hZ hW hR hlo hls
  exact lv_lconst hC.1 hC.2.1 d hv (k p e s m args below meth c r0 r H locs ls hC hZ hW hR hlo hls)
theorem V_ldc (q : Nat) {index : Nat} {v : Int32} (hw : Cond.constant y.cls index v ∈ TB) (d : decode cc pc = .ok (.ldc index, 2)) (hq : pc + 2 = q) (k : V l G y cc nL ret R mc ms Z post L M cells slots lv q (.int v :: st)) : V l G y cc nL ret R mc ms Z post L M cells slots lv pc (st) := by
  subst hq
  intro p e s m args below meth c r0 r H locs ls hC hZ hW hR hlo hls
  exact lv_ldc hC.1 hC.2.1 hC.2.2.2.2.1 (hW.t hw) d (k p e s m args below meth c r0 r H locs ls hC hZ hW hR hlo hls)
theorem V_ldcw (q : Nat) {index : Nat} {v : Int32} (hw : Cond.constant y.cls index v ∈ TB) (d : decode cc pc = .ok (.ldc_w index, 3)) (hq : pc + 3 = q) (k : V l G y cc nL ret R mc ms Z post L M cells slots lv q (.int v :: st)) : V l G y cc nL ret R mc ms Z post L M cells slots lv pc (st) := by
  subst hq
  intro p e s m args below meth c r0 r H locs ls hC hZ hW hR hlo hls
  exact lv_ldcw hC.1 hC.2.1 hC.2.2.2.2.1 (hW.t hw) d (k p e s m args below meth c r0 r H locs ls hC hZ hW hR hlo hls)
theorem V_null (q : Nat)  (d : decode cc pc = .ok (.aconst_null, 1)) (hq : pc + 1 = q) (k : V l G y cc nL ret R mc ms Z post L M cells slots lv q (.null :: st)) : V l G y cc nL ret R mc ms Z post L M cells slots lv pc (st) := by
  subst hq
  intro p e s m args below meth c r0 r H locs ls hC hZ hW hR hlo hls
  exact lv_null hC.1 hC.2.1 d (k p e s m args below meth c r0 r H locs ls hC hZ hW hR hlo hls)
theorem V_iadd (q : Nat) {x z : Int32} (d : decode cc pc = .ok (.iadd, 1)) (hq : pc + 1 = q) (k : V l G y cc nL ret R mc ms Z post L M cells slots lv q (.int (x + z) :: st)) : V l G y cc nL ret R mc ms Z post L M cells slots lv pc (.int z :: .int x :: st) := by
  subst hq
  intro p e s m args below meth c r0 r H locs ls hC hZ hW hR hlo hls
  exact lv_iadd hC.1 hC.2.1 d (k p e s m args below meth c r0 r H locs ls hC hZ hW hR hlo hls)
theorem V_isub (q : Nat) {x z : Int32} (d : decode cc pc = .ok (.isub, 1)) (hq : pc + 1 = q) (k : V l G y cc nL ret R mc ms Z post L M cells slots lv q (.int (x - z) :: st)) : V l G y cc nL ret R mc ms Z post L M cells slots lv pc (.int z :: .int x :: st) := by
  subst hq
  intro p e s m args below meth c r0 r H locs ls hC hZ hW hR hlo hls
  exact lv_isub hC.1 hC.2.1 d (k p e s m args below meth c r0 r H locs ls hC hZ hW hR hlo hls)
theorem V_imul (q : Nat) {x z : Int32} (d : decode cc pc = .ok (.imul, 1)) (hq : pc + 1 = q) (k : V l G y cc nL ret R mc ms Z post L M cells slots lv q (.int (x * z) :: st)) : V l G y cc nL ret R mc ms Z post L M cells slots lv pc (.int z :: .int x :: st) := by
  subst hq
  intro p e s m args below meth c r0 r H locs ls hC hZ hW hR hlo hls
  exact lv_imul hC.1 hC.2.1 d (k p e s m args below meth c r0 r H locs ls hC hZ hW hR hlo hls)
theorem V_iand (q : Nat) {x z : Int32} (d : decode cc pc = .ok (.iand, 1)) (hq : pc + 1 = q) (k : V l G y cc nL ret R mc ms Z post L M cells slots lv q (.int (x &&& z) :: st)) : V l G y cc nL ret R mc ms Z post L M cells slots lv pc (.int z :: .int x :: st) := by
  subst hq
  intro p e s m args below meth c r0 r H locs ls hC hZ hW hR hlo hls
  exact lv_iand hC.1 hC.2.1 d (k p e s m args below meth c r0 r H locs ls hC hZ hW hR hlo hls)
theorem V_ior (q : Nat) {x z : Int32} (d : decode cc pc = .ok (.ior, 1)) (hq : pc + 1 = q) (k : V l G y cc nL ret R mc ms Z post L M cells slots lv q (.int (x ||| z) :: st)) : V l G y cc nL ret R mc ms Z post L M cells slots lv pc (.int z :: .int x :: st) := by
  subst hq
  intro p e s m args below meth c r0 r H locs ls hC hZ hW hR hlo hls
  exact lv_ior hC.1 hC.2.1 d (k p e s m args below meth c r0 r H locs ls hC hZ hW hR hlo hls)
theorem V_ixor (q : Nat) {x z : Int32} (d : decode cc pc = .ok (.ixor, 1)) (hq : pc + 1 = q) (k : V l G y cc nL ret R mc ms Z post L M cells slots lv q (.int (x ^^^ z) :: st)) : V l G y cc nL ret R mc ms Z post L M cells slots lv pc (.int z :: .int x :: st) := by
  subst hq
  intro p e s m args below meth c r0 r H locs ls hC hZ hW hR hlo hls
  exact lv_ixor hC.1 hC.2.1 d (k p e s m args below meth c r0 r H locs ls hC hZ hW hR hlo hls)
theorem V_ishl (q : Nat) {x z : Int32} (d : decode cc pc = .ok (.ishl, 1)) (hq : pc + 1 = q) (k : V l G y cc nL ret R mc ms Z post L M cells slots lv q (.int (x <<< (z &&& 31)) :: st)) : V l G y cc nL ret R mc ms Z post L M cells slots lv pc (.int z :: .int x :: st) := by
  subst hq
  intro p e s m args below meth c r0 r H locs ls hC hZ hW hR hlo hls
  exact lv_ishl hC.1 hC.2.1 d (k p e s m args below meth c r0 r H locs ls hC hZ hW hR hlo hls)
theorem V_ishr (q : Nat) {x z : Int32} (d : decode cc pc = .ok (.ishr, 1)) (hq : pc + 1 = q) (k : V l G y cc nL ret R mc ms Z post L M cells slots lv q (.int (x >>> (z &&& 31)) :: st)) : V l G y cc nL ret R mc ms Z post L M cells slots lv pc (.int z :: .int x :: st) := by
  subst hq
  intro p e s m args below meth c r0 r H locs ls hC hZ hW hR hlo hls
  exact lv_ishr hC.1 hC.2.1 d (k p e s m args below meth c r0 r H locs ls hC hZ hW hR hlo hls)
theorem V_iushr (q : Nat) {x z : Int32} (d : decode cc pc = .ok (.iushr, 1)) (hq : pc + 1 = q) (k : V l G y cc nL ret R mc ms Z post L M cells slots lv q (.int ((x.toUInt32 >>> (z.toUInt32 &&& Int32.toUInt32 31)).toInt32) :: st)) : V l G y cc nL ret R mc ms Z post L M cells slots lv pc (.int z :: .int x :: st) := by
  subst hq
  intro p e s m args below meth c r0 r H locs ls hC hZ hW hR hlo hls
  exact lv_iushr hC.1 hC.2.1 d rfl (k p e s m args below meth c r0 r H locs ls hC hZ hW hR hlo hls)
theorem V_ineg (q : Nat) {x : Int32} (d : decode cc pc = .ok (.ineg, 1)) (hq : pc + 1 = q) (k : V l G y cc nL ret R mc ms Z post L M cells slots lv q (.int (-x) :: st)) : V l G y cc nL ret R mc ms Z post L M cells slots lv pc (.int x :: st) := by
  subst hq
  intro p e s m args below meth c r0 r H locs ls hC hZ hW hR hlo hls
  exact lv_ineg hC.1 hC.2.1 d (k p e s m args below meth c r0 r H locs ls hC hZ hW hR hlo hls)
theorem V_i2l (q : Nat) {x : Int32} (d : decode cc pc = .ok (.i2l, 1)) (hq : pc + 1 = q) (k : V l G y cc nL ret R mc ms Z post L M cells slots lv q (.long x.toInt64 :: st)) : V l G y cc nL ret R mc ms Z post L M cells slots lv pc (.int x :: st) := by
  subst hq
  intro p e s m args below meth c r0 r H locs ls hC hZ hW hR hlo hls
  exact lv_i2l hC.1 hC.2.1 d rfl (k p e s m args below meth c r0 r H locs ls hC hZ hW hR hlo hls)
theorem V_lcmp (q : Nat) {x z : Int64} (d : decode cc pc = .ok (.lcmp, 1)) (hq : pc + 1 = q) (k : V l G y cc nL ret R mc ms Z post L M cells slots lv q (.int (lg_cmp x z) :: st)) : V l G y cc nL ret R mc ms Z post L M cells slots lv pc (.long z :: .long x :: st) := by
  subst hq
  intro p e s m args below meth c r0 r H locs ls hC hZ hW hR hlo hls
  exact W.lcmp hC.1 hC.2.1 d (k p e s m args below meth c r0 r H locs ls hC hZ hW hR hlo hls)
theorem V_dup (q : Nat) {a : Value} (ha : a.category = 1) (d : decode cc pc = .ok (.dup, 1)) (hq : pc + 1 = q) (k : V l G y cc nL ret R mc ms Z post L M cells slots lv q (a :: a :: st)) : V l G y cc nL ret R mc ms Z post L M cells slots lv pc (a :: st) := by
  subst hq
  intro p e s m args below meth c r0 r H locs ls hC hZ hW hR hlo hls
  exact lv_dup hC.1 hC.2.1 d (by rw [gV_cat]; exact ha) (k p e s m args below meth c r0 r H locs ls hC hZ hW hR hlo hls)
theorem V_pop (q : Nat) {a : Value} (ha : a.category = 1) (d : decode cc pc = .ok (.pop, 1)) (hq : pc + 1 = q) (k : V l G y cc nL ret R mc ms Z post L M cells slots lv q (st)) : V l G y cc nL ret R mc ms Z post L M cells slots lv pc (a :: st) := by
  subst hq
  intro p e s m args below meth c r0 r H locs ls hC hZ hW hR hlo hls
  exact lv_pop hC.1 hC.2.1 d (by rw [gV_cat]; exact ha) (k p e s m args below meth c r0 r H locs ls hC hZ hW hR hlo hls)
theorem V_dup_x1 (q : Nat) {a b : Value} (ha : a.category = 1) (hb : b.category = 1) (d : decode cc pc = .ok (.dup_x1, 1)) (hq : pc + 1 = q) (k : V l G y cc nL ret R mc ms Z post L M cells slots lv q (a :: b :: a :: st)) : V l G y cc nL ret R mc ms Z post L M cells slots lv pc (a :: b :: st) := by
  subst hq
  intro p e s m args below meth c r0 r H locs ls hC hZ hW hR hlo hls
  exact lv_dup_x1 hC.1 hC.2.1 d (by rw [gV_cat]; exact ha) (by rw [gV_cat]; exact hb) (k p e s m args below meth c r0 r H locs ls hC hZ hW hR hlo hls)
theorem V_dup_x2 (q : Nat) {a b z : Value} (ha : a.category = 1) (hb : b.category = 1) (hz : z.category = 1) (d : decode cc pc = .ok (.dup_x2, 1)) (hq : pc + 1 = q) (k : V l G y cc nL ret R mc ms Z post L M cells slots lv q (a :: b :: z :: a :: st)) : V l G y cc nL ret R mc ms Z post L M cells slots lv pc (a :: b :: z :: st) := by
  subst hq
  intro p e s m args below meth c r0 r H locs ls hC hZ hW hR hlo hls
  exact lv_dup_x2 hC.1 hC.2.1 d (by rw [gV_cat]; exact ha) (by rw [gV_cat]; exact hb) (by rw [gV_cat]; exact hz) (k p e s m args below meth c r0 r H locs ls hC hZ hW hR hlo hls)
theorem V_dup2 (q : Nat) {a b : Value} (ha : a.category = 1) (hb : b.category = 1) (d : decode cc pc = .ok (.dup2, 1)) (hq : pc + 1 = q) (k : V l G y cc nL ret R mc ms Z post L M cells slots lv q (a :: b :: a :: b :: st)) : V l G y cc nL ret R mc ms Z post L M cells slots lv pc (a :: b :: st) := by
  subst hq
  intro p e s m args below meth c r0 r H locs ls hC hZ hW hR hlo hls
  exact lv_dup2_11 hC.1 hC.2.1 d (by rw [gV_cat]; exact ha) (by rw [gV_cat]; exact hb) (k p e s m args below meth c r0 r H locs ls hC hZ hW hR hlo hls)
theorem V_if_eq (t q : Nat) {x : Int32} {off : Int} (d : decode cc pc = .ok (.ifCond .eq off, 3)) (ht : (pc : Int) + off = (t : Int)) (hq : pc + 3 = q) (kt : x = 0 → V l G y cc nL ret R mc ms Z post L M cells slots lv t st) (kf : ¬ x = 0 → V l G y cc nL ret R mc ms Z post L M cells slots lv q st) : V l G y cc nL ret R mc ms Z post L M cells slots lv pc (.int x :: st) := by
  subst hq
  intro p e s m args below meth c r0 r H locs ls hC hZ hW hR hlo hls
  exact lv_if_eq hC.1 hC.2.1 d ht (fun h => kt h p e s m args below meth c r0 r H locs ls hC hZ hW hR hlo hls) (fun h => kf h p e s m args below meth c r0 r H locs ls hC hZ hW hR hlo hls)
theorem V_icmp_eq (t q : Nat) {x z : Int32} {off : Int} (d : decode cc pc = .ok (.if_icmp .eq off, 3)) (ht : (pc : Int) + off = (t : Int)) (hq : pc + 3 = q) (kt : x = z → V l G y cc nL ret R mc ms Z post L M cells slots lv t st) (kf : ¬ x = z → V l G y cc nL ret R mc ms Z post L M cells slots lv q st) : V l G y cc nL ret R mc ms Z post L M cells slots lv pc (.int z :: .int x :: st) := by
  subst hq
  intro p e s m args below meth c r0 r H locs ls hC hZ hW hR hlo hls
  exact lv_icmp_eq hC.1 hC.2.1 d ht (fun h => kt h p e s m args below meth c r0 r H locs ls hC hZ hW hR hlo hls) (fun h => kf h p e s m args below meth c r0 r H locs ls hC hZ hW hR hlo hls)
theorem V_if_ne (t q : Nat) {x : Int32} {off : Int} (d : decode cc pc = .ok (.ifCond .ne off, 3)) (ht : (pc : Int) + off = (t : Int)) (hq : pc + 3 = q) (kt : ¬ x = 0 → V l G y cc nL ret R mc ms Z post L M cells slots lv t st) (kf : x = 0 → V l G y cc nL ret R mc ms Z post L M cells slots lv q st) : V l G y cc nL ret R mc ms Z post L M cells slots lv pc (.int x :: st) := by
  subst hq
  intro p e s m args below meth c r0 r H locs ls hC hZ hW hR hlo hls
  exact lv_if_ne hC.1 hC.2.1 d ht (fun h => kt h p e s m args below meth c r0 r H locs ls hC hZ hW hR hlo hls) (fun h => kf h p e s m args below meth c r0 r H locs ls hC hZ hW hR hlo hls)
theorem V_icmp_ne (t q : Nat) {x z : Int32} {off : Int} (d : decode cc pc = .ok (.if_icmp .ne off, 3)) (ht : (pc : Int) + off = (t : Int)) (hq : pc + 3 = q) (kt : ¬ x = z → V l G y cc nL ret R mc ms Z post L M cells slots lv t st) (kf : x = z → V l G y cc nL ret R mc ms Z post L M cells slots lv q st) : V l G y cc nL ret R mc ms Z post L M cells slots lv pc (.int z :: .int x :: st) := by
  subst hq
  intro p e s m args below meth c r0 r H locs ls hC hZ hW hR hlo hls
  exact lv_icmp_ne hC.1 hC.2.1 d ht (fun h => kt h p e s m args below meth c r0 r H locs ls hC hZ hW hR hlo hls) (fun h => kf h p e s m args below meth c r0 r H locs ls hC hZ hW hR hlo hls)
theorem V_if_lt (t q : Nat) {x : Int32} {off : Int} (d : decode cc pc = .ok (.ifCond .lt off, 3)) (ht : (pc : Int) + off = (t : Int)) (hq : pc + 3 = q) (kt : x < 0 → V l G y cc nL ret R mc ms Z post L M cells slots lv t st) (kf : ¬ x < 0 → V l G y cc nL ret R mc ms Z post L M cells slots lv q st) : V l G y cc nL ret R mc ms Z post L M cells slots lv pc (.int x :: st) := by
  subst hq
  intro p e s m args below meth c r0 r H locs ls hC hZ hW hR hlo hls
  exact lv_if_lt hC.1 hC.2.1 d ht (fun h => kt h p e s m args below meth c r0 r H locs ls hC hZ hW hR hlo hls) (fun h => kf h p e s m args below meth c r0 r H locs ls hC hZ hW hR hlo hls)
theorem V_icmp_lt (t q : Nat) {x z : Int32} {off : Int} (d : decode cc pc = .ok (.if_icmp .lt off, 3)) (ht : (pc : Int) + off = (t : Int)) (hq : pc + 3 = q) (kt : x < z → V l G y cc nL ret R mc ms Z post L M cells slots lv t st) (kf : ¬ x < z → V l G y cc nL ret R mc ms Z post L M cells slots lv q st) : V l G y cc nL ret R mc ms Z post L M cells slots lv pc (.int z :: .int x :: st) := by
  subst hq
  intro p e s m args below meth c r0 r H locs ls hC hZ hW hR hlo hls
  exact lv_icmp_lt hC.1 hC.2.1 d ht (fun h => kt h p e s m args below meth c r0 r H locs ls hC hZ hW hR hlo hls) (fun h => kf h p e s m args below meth c r0 r H locs ls hC hZ hW hR hlo hls)
theorem V_if_ge (t q : Nat) {x : Int32} {off : Int} (d : decode cc pc = .ok (.ifCond .ge off, 3)) (ht : (pc : Int) + off = (t : Int)) (hq : pc + 3 = q) (kt : 0 ≤ x → V l G y cc nL ret R mc ms Z post L M cells slots lv t st) (kf : ¬ 0 ≤ x → V l G y cc nL ret R mc ms Z post L M cells slots lv q st) : V l G y cc nL ret R mc ms Z post L M cells slots lv pc (.int x :: st) := by
  subst hq
  intro p e s m args below meth c r0 r H locs ls hC hZ hW hR hlo hls
  exact lv_if_ge hC.1 hC.2.1 d ht (fun h => kt h p e s m args below meth c r0 r H locs ls hC hZ hW hR hlo hls) (fun h => kf h p e s m args below meth c r0 r H locs ls hC hZ hW hR hlo hls)
theorem V_icmp_ge (t q : Nat) {x z : Int32} {off : Int} (d : decode cc pc = .ok (.if_icmp .ge off, 3)) (ht : (pc : Int) + off = (t : Int)) (hq : pc + 3 = q) (kt : z ≤ x → V l G y cc nL ret R mc ms Z post L M cells slots lv t st) (kf : ¬ z ≤ x → V l G y cc nL ret R mc ms Z post L M cells slots lv q st) : V l G y cc nL ret R mc ms Z post L M cells slots lv pc (.int z :: .int x :: st) := by
  subst hq
  intro p e s m args below meth c r0 r H locs ls hC hZ hW hR hlo hls
  exact lv_icmp_ge hC.1 hC.2.1 d ht (fun h => kt h p e s m args below meth c r0 r H locs ls hC hZ hW hR hlo hls) (fun h => kf h p e s m args below meth c r0 r H locs ls hC hZ hW hR hlo hls)
theorem V_if_gt (t q : Nat) {x : Int32} {off : Int} (d : decode cc pc = .ok (.ifCond .gt off, 3)) (ht : (pc : Int) + off = (t : Int)) (hq : pc + 3 = q) (kt : 0 < x → V l G y cc nL ret R mc ms Z post L M cells slots lv t st) (kf : ¬ 0 < x → V l G y cc nL ret R mc ms Z post L M cells slots lv q st) : V l G y cc nL ret R mc ms Z post L M cells slots lv pc (.int x :: st) := by
  subst hq
  intro p e s m args below meth c r0 r H locs ls hC hZ hW hR hlo hls
  exact lv_if_gt hC.1 hC.2.1 d ht (fun h => kt h p e s m args below meth c r0 r H locs ls hC hZ hW hR hlo hls) (fun h => kf h p e s m args below meth c r0 r H locs ls hC hZ hW hR hlo hls)
theorem V_icmp_gt (t q : Nat) {x z : Int32} {off : Int} (d : decode cc pc = .ok (.if_icmp .gt off, 3)) (ht : (pc : Int) + off = (t : Int)) (hq : pc + 3 = q) (kt : z < x → V l G y cc nL ret R mc ms Z post L M cells slots lv t st) (kf : ¬ z < x → V l G y cc nL ret R mc ms Z post L M cells slots lv q st) : V l G y cc nL ret R mc ms Z post L M cells slots lv pc (.int z :: .int x :: st) := by
  subst hq
  intro p e s m args below meth c r0 r H locs ls hC hZ hW hR hlo hls
  exact lv_icmp_gt hC.1 hC.2.1 d ht (fun h => kt h p e s m args below meth c r0 r H locs ls hC hZ hW hR hlo hls) (fun h => kf h p e s m args below meth c r0 r H locs ls hC hZ hW hR hlo hls)
theorem V_if_le (t q : Nat) {x : Int32} {off : Int} (d : decode cc pc = .ok (.ifCond .le off, 3)) (ht : (pc : Int) + off = (t : Int)) (hq : pc + 3 = q) (kt : x ≤ 0 → V l G y cc nL ret R mc ms Z post L M cells slots lv t st) (kf : ¬ x ≤ 0 → V l G y cc nL ret R mc ms Z post L M cells slots lv q st) : V l G y cc nL ret R mc ms Z post L M cells slots lv pc (.int x :: st) := by
  subst hq
  intro p e s m args below meth c r0 r H locs ls hC hZ hW hR hlo hls
  exact lv_if_le hC.1 hC.2.1 d ht (fun h => kt h p e s m args below meth c r0 r H locs ls hC hZ hW hR hlo hls) (fun h => kf h p e s m args below meth c r0 r H locs ls hC hZ hW hR hlo hls)
theorem V_icmp_le (t q : Nat) {x z : Int32} {off : Int} (d : decode cc pc = .ok (.if_icmp .le off, 3)) (ht : (pc : Int) + off = (t : Int)) (hq : pc + 3 = q) (kt : x ≤ z → V l G y cc nL ret R mc ms Z post L M cells slots lv t st) (kf : ¬ x ≤ z → V l G y cc nL ret R mc ms Z post L M cells slots lv q st) : V l G y cc nL ret R mc ms Z post L M cells slots lv pc (.int z :: .int x :: st) := by
  subst hq
  intro p e s m args below meth c r0 r H locs ls hC hZ hW hR hlo hls
  exact lv_icmp_le hC.1 hC.2.1 d ht (fun h => kt h p e s m args below meth c r0 r H locs ls hC hZ hW hR hlo hls) (fun h => kf h p e s m args below meth c r0 r H locs ls hC hZ hW hR hlo hls)
theorem V_goto (t : Nat) {off : Int} (d : decode cc pc = .ok (.goto off, 3)) (ht : (pc : Int) + off = (t : Int)) (k : V l G y cc nL ret R mc ms Z post L M cells slots lv t st) : V l G y cc nL ret R mc ms Z post L M cells slots lv pc st := by
  intro p e s m args below meth c r0 r H locs ls hC hZ hW hR hlo hls
  exact lv_goto hC.1 hC.2.1 d ht (k p e s m args below meth c r0 r H locs ls hC hZ hW hR hlo hls)
theorem V_nn (t : Nat) {off : Int} {a : Nat} (d : decode cc pc = .ok (.ifnonnull off, 3)) (ht : (pc : Int) + off = (t : Int)) (k : V l G y cc nL ret R mc ms Z post L M cells slots lv t st) : V l G y cc nL ret R mc ms Z post L M cells slots lv pc (.ref a :: st) := by
  intro p e s m args below meth c r0 r H locs ls hC hZ hW hR hlo hls
  exact lv_ifnonnull hC.1 hC.2.1 d ht (k p e s m args below meth c r0 r H locs ls hC hZ hW hR hlo hls)
theorem V_nnN (q : Nat) {off : Int} (d : decode cc pc = .ok (.ifnonnull off, 3)) (hq : pc + 3 = q) (k : V l G y cc nL ret R mc ms Z post L M cells slots lv q st) : V l G y cc nL ret R mc ms Z post L M cells slots lv pc (.null :: st) := by
  subst hq
  intro p e s m args below meth c r0 r H locs ls hC hZ hW hR hlo hls
  exact lv_ifnonnullN hC.1 hC.2.1 d (k p e s m args below meth c r0 r H locs ls hC hZ hW hR hlo hls)
theorem V_nul (q : Nat) {off : Int} {a : Nat} (d : decode cc pc = .ok (.ifnull off, 3)) (hq : pc + 3 = q) (k : V l G y cc nL ret R mc ms Z post L M cells slots lv q st) : V l G y cc nL ret R mc ms Z post L M cells slots lv pc (.ref a :: st) := by
  subst hq
  intro p e s m args below meth c r0 r H locs ls hC hZ hW hR hlo hls
  exact lv_ifnull hC.1 hC.2.1 d (k p e s m args below meth c r0 r H locs ls hC hZ hW hR hlo hls)
theorem V_nulN (t : Nat) {off : Int} (d : decode cc pc = .ok (.ifnull off, 3)) (ht : (pc : Int) + off = (t : Int)) (k : V l G y cc nL ret R mc ms Z post L M cells slots lv t st) : V l G y cc nL ret R mc ms Z post L M cells slots lv pc (.null :: st) := by
  intro p e s m args below meth c r0 r H locs ls hC hZ hW hR hlo hls
  exact lv_ifnullN hC.1 hC.2.1 d ht (k p e s m args below meth c r0 r H locs ls hC hZ hW hR hlo hls)
theorem V_tabOut (t : Nat) {dflt lo hi : Int} {offs : Array Int} {len : Nat} {x : Int32} (d : decode cc pc = .ok (.tableswitch dflt lo hi offs, len)) (h : x.toInt < lo ∨ hi < x.toInt) (ht : (pc : Int) + dflt = (t : Int)) (k : V l G y cc nL ret R mc ms Z post L M cells slots lv t st) : V l G y cc nL ret R mc ms Z post L M cells slots lv pc (.int x :: st) := by
  intro p e s m args below meth c r0 r H locs ls hC hZ hW hR hlo hls
  exact lv_tableOut hC.1 hC.2.1 d h ht (k p e s m args below meth c r0 r H locs ls hC hZ hW hR hlo hls)
theorem V_tabIn (t : Nat) {dflt lo hi : Int} {offs : Array Int} {len : Nat} {x : Int32} {off : Int} (d : decode cc pc = .ok (.tableswitch dflt lo hi offs, len)) (h1 : ¬ x.toInt < lo) (h2 : ¬ hi < x.toInt) (ho : offs[(x.toInt - lo).toNat]? = some off) (ht : (pc : Int) + off = (t : Int)) (k : V l G y cc nL ret R mc ms Z post L M cells slots lv t st) : V l G y cc nL ret R mc ms Z post L M cells slots lv pc (.int x :: st) := by
  intro p e s m args below meth c r0 r H locs ls hC hZ hW hR hlo hls
  exact lv_tableIn hC.1 hC.2.1 d h1 h2 ho ht (k p e s m args below meth c r0 r H locs ls hC hZ hW hR hlo hls)
theorem V_il0 (q : Nat) {t : List (Option Value)} {x : Int32} (d : decode cc pc = .ok (.iload_n 0, 1)) (hq : pc + 1 = q) (k : V l G y cc nL ret R mc ms Z post L M cells slots (some (.int x) :: t) q (.int x :: st)) : V l G y cc nL ret R mc ms Z post L M cells slots (some (.int x) :: t) pc (st) := by
  subst hq
  intro p e s m args below meth c r0 r H locs ls hC hZ hW hR hlo hls
  exact lv_iload_n hC.1 hC.2.1 d rfl (hls.at (i := 0) rfl) (k p e s m args below meth c r0 r H locs ls hC hZ hW hR hlo hls)
theorem V_al0 (q : Nat) {t : List (Option Value)} {x : Nat} (d : decode cc pc = .ok (.aload_n 0, 1)) (hq : pc + 1 = q) (k : V l G y cc nL ret R mc ms Z post L M cells slots (some (.ref x) :: t) q (.ref x :: st)) : V l G y cc nL ret R mc ms Z post L M cells slots (some (.ref x) :: t) pc (st) := by
  subst hq
  intro p e s m args below meth c r0 r H locs ls hC hZ hW hR hlo hls
  exact lv_aload_n hC.1 hC.2.1 d rfl (hls.at (i := 0) rfl) (k p e s m args below meth c r0 r H locs ls hC hZ hW hR hlo hls)
theorem V_an0 (q : Nat) {t : List (Option Value)}  (d : decode cc pc = .ok (.aload_n 0, 1)) (hq : pc + 1 = q) (k : V l G y cc nL ret R mc ms Z post L M cells slots (some (.null) :: t) q (.null :: st)) : V l G y cc nL ret R mc ms Z post L M cells slots (some (.null) :: t) pc (st) := by
  subst hq
  intro p e s m args below meth c r0 r H locs ls hC hZ hW hR hlo hls
  exact lv_aload_nN hC.1 hC.2.1 d rfl (hls.at (i := 0) rfl) (k p e s m args below meth c r0 r H locs ls hC hZ hW hR hlo hls)
theorem V_is0 (q : Nat) {b : Option Value} {t : List (Option Value)} {x : Int32} (d : decode cc pc = .ok (.istore_n 0, 1)) (hn : 0 < nL) (hq : pc + 1 = q) (k : V l G y cc nL ret R mc ms Z post L M cells slots (some (.int x) :: t) q st) : V l G y cc nL ret R mc ms Z post L M cells slots (b :: t) pc (.int x :: st) := by
  subst hq
  intro p e s m args below meth c r0 r H locs ls hC hZ hW hR hlo hls
  exact lv_istore_n hC.1 hC.2.1 d rfl hls.1 hn rfl (fun ls' h' => k p e s m args below meth c r0 r H locs ls' hC hZ hW hR hlo (gH.set (i := 0) (v := .int x) hls.2 rfl h'))
theorem V_as0 (q : Nat) {b : Option Value} {t : List (Option Value)} {x : Nat} (d : decode cc pc = .ok (.astore_n 0, 1)) (hn : 0 < nL) (hq : pc + 1 = q) (k : V l G y cc nL ret R mc ms Z post L M cells slots (some (.ref x) :: t) q st) : V l G y cc nL ret R mc ms Z post L M cells slots (b :: t) pc (.ref x :: st) := by
  subst hq
  intro p e s m args below meth c r0 r H locs ls hC hZ hW hR hlo hls
  exact lv_astore_n hC.1 hC.2.1 d rfl hls.1 hn rfl (fun ls' h' => k p e s m args below meth c r0 r H locs ls' hC hZ hW hR hlo (gH.set (i := 0) (v := .ref x) hls.2 rfl h'))
theorem V_az0 (q : Nat) {b : Option Value} {t : List (Option Value)}  (d : decode cc pc = .ok (.astore_n 0, 1)) (hn : 0 < nL) (hq : pc + 1 = q) (k : V l G y cc nL ret R mc ms Z post L M cells slots (some (.null) :: t) q st) : V l G y cc nL ret R mc ms Z post L M cells slots (b :: t) pc (.null :: st) := by
  subst hq
  intro p e s m args below meth c r0 r H locs ls hC hZ hW hR hlo hls
  exact lv_astore_nN hC.1 hC.2.1 d rfl hls.1 hn rfl (fun ls' h' => k p e s m args below meth c r0 r H locs ls' hC hZ hW hR hlo (gH.set (i := 0) (v := .null) hls.2 rfl h'))
theorem V_ii0 (q : Nat) {t : List (Option Value)} {x v : Int32} {n : Int} (d : decode cc pc = .ok (.iinc 0 n, 3)) (hn : 0 < nL) (hv : Int32.ofInt n = v) (hq : pc + 3 = q) (k : V l G y cc nL ret R mc ms Z post L M cells slots (some (.int (x + v)) :: t) q st) : V l G y cc nL ret R mc ms Z post L M cells slots (some (.int x) :: t) pc st := by
  subst hq
  subst hv
  intro p e s m args below meth c r0 r H locs ls hC hZ hW hR hlo hls
  obtain ⟨k9, hk9⟩ := List.getElem?_of_mem (gP_mem.mpr ⟨.int x, rfl, rfl⟩ : (0, Value.int x) ∈ gP r (some (.int x) :: t))
  exact lv_iinc hC.1 hC.2.1 d hls.1 hk9 rfl hn rfl (fun ls' h' => k p e s m args below meth c r0 r H locs ls' hC hZ hW hR hlo (gH.set (i := 0) (v := .int (x + Int32.ofInt n)) hls.2 rfl h'))
theorem V_il1 (q : Nat) {a0 : Option Value} {t : List (Option Value)} {x : Int32} (d : decode cc pc = .ok (.iload_n 1, 1)) (hq : pc + 1 = q) (k : V l G y cc nL ret R mc ms Z post L M cells slots (a0 :: some (.int x) :: t) q (.int x :: st)) : V l G y cc nL ret R mc ms Z post L M cells slots (a0 :: some (.int x) :: t) pc (st) := by
  subst hq
  intro p e s m args below meth c r0 r H locs ls hC hZ hW hR hlo hls
  exact lv_iload_n hC.1 hC.2.1 d rfl (hls.at (i := 1) rfl) (k p e s m args below meth c r0 r H locs ls hC hZ hW hR hlo hls)
theorem V_al1 (q : Nat) {a0 : Option Value} {t : List (Option Value)} {x : Nat} (d : decode cc pc = .ok (.aload_n 1, 1)) (hq : pc + 1 = q) (k : V l G y cc nL ret R mc ms Z post L M cells slots (a0 :: some (.ref x) :: t) q (.ref x :: st)) : V l G y cc nL ret R mc ms Z post L M cells slots (a0 :: some (.ref x) :: t) pc (st) := by
  subst hq
  intro p e s m args below meth c r0 r H locs ls hC hZ hW hR hlo hls
  exact lv_aload_n hC.1 hC.2.1 d rfl (hls.at (i := 1) rfl) (k p e s m args below meth c r0 r H locs ls hC hZ hW hR hlo hls)
theorem V_an1 (q : Nat) {a0 : Option Value} {t : List (Option Value)}  (d : decode cc pc = .ok (.aload_n 1, 1)) (hq : pc + 1 = q) (k : V l G y cc nL ret R mc ms Z post L M cells slots (a0 :: some (.null) :: t) q (.null :: st)) : V l G y cc nL ret R mc ms Z post L M cells slots (a0 :: some (.null) :: t) pc (st) := by
  subst hq
  intro p e s m args below meth c r0 r H locs ls hC hZ hW hR hlo hls
  exact lv_aload_nN hC.1 hC.2.1 d rfl (hls.at (i := 1) rfl) (k p e s m args below meth c r0 r H locs ls hC hZ hW hR hlo hls)
theorem V_is1 (q : Nat) {a0 b : Option Value} {t : List (Option Value)} {x : Int32} (d : decode cc pc = .ok (.istore_n 1, 1)) (hn : 1 < nL) (hq : pc + 1 = q) (k : V l G y cc nL ret R mc ms Z post L M cells slots (a0 :: some (.int x) :: t) q st) : V l G y cc nL ret R mc ms Z post L M cells slots (a0 :: b :: t) pc (.int x :: st) := by
  subst hq
  intro p e s m args below meth c r0 r H locs ls hC hZ hW hR hlo hls
  exact lv_istore_n hC.1 hC.2.1 d rfl hls.1 hn rfl (fun ls' h' => k p e s m args below meth c r0 r H locs ls' hC hZ hW hR hlo (gH.set (i := 1) (v := .int x) hls.2 rfl h'))
theorem V_as1 (q : Nat) {a0 b : Option Value} {t : List (Option Value)} {x : Nat} (d : decode cc pc = .ok (.astore_n 1, 1)) (hn : 1 < nL) (hq : pc + 1 = q) (k : V l G y cc nL ret R mc ms Z post L M cells slots (a0 :: some (.ref x) :: t) q st) : V l G y cc nL ret R mc ms Z post L M cells slots (a0 :: b :: t) pc (.ref x :: st) := by
  subst hq
  intro p e s m args below meth c r0 r H locs ls hC hZ hW hR hlo hls
  exact lv_astore_n hC.1 hC.2.1 d rfl hls.1 hn rfl (fun ls' h' => k p e s m args below meth c r0 r H locs ls' hC hZ hW hR hlo (gH.set (i := 1) (v := .ref x) hls.2 rfl h'))
theorem V_az1 (q : Nat) {a0 b : Option Value} {t : List (Option Value)}  (d : decode cc pc = .ok (.astore_n 1, 1)) (hn : 1 < nL) (hq : pc + 1 = q) (k : V l G y cc nL ret R mc ms Z post L M cells slots (a0 :: some (.null) :: t) q st) : V l G y cc nL ret R mc ms Z post L M cells slots (a0 :: b :: t) pc (.null :: st) := by
  subst hq
  intro p e s m args below meth c r0 r H locs ls hC hZ hW hR hlo hls
  exact lv_astore_nN hC.1 hC.2.1 d rfl hls.1 hn rfl (fun ls' h' => k p e s m args below meth c r0 r H locs ls' hC hZ hW hR hlo (gH.set (i := 1) (v := .null) hls.2 rfl h'))
theorem V_ii1 (q : Nat) {a0 : Option Value} {t : List (Option Value)} {x v : Int32} {n : Int} (d : decode cc pc = .ok (.iinc 1 n, 3)) (hn : 1 < nL) (hv : Int32.ofInt n = v) (hq : pc + 3 = q) (k : V l G y cc nL ret R mc ms Z post L M cells slots (a0 :: some (.int (x + v)) :: t) q st) : V l G y cc nL ret R mc ms Z post L M cells slots (a0 :: some (.int x) :: t) pc st := by
  subst hq
  subst hv
  intro p e s m args below meth c r0 r H locs ls hC hZ hW hR hlo hls
  obtain ⟨k9, hk9⟩ := List.getElem?_of_mem (gP_mem.mpr ⟨.int x, rfl, rfl⟩ : (1, Value.int x) ∈ gP r (a0 :: some (.int x) :: t))
  exact lv_iinc hC.1 hC.2.1 d hls.1 hk9 rfl hn rfl (fun ls' h' => k p e s m args below meth c r0 r H locs ls' hC hZ hW hR hlo (gH.set (i := 1) (v := .int (x + Int32.ofInt n)) hls.2 rfl h'))
theorem V_il2 (q : Nat) {a0 a1 : Option Value} {t : List (Option Value)} {x : Int32} (d : decode cc pc = .ok (.iload_n 2, 1)) (hq : pc + 1 = q) (k : V l G y cc nL ret R mc ms Z post L M cells slots (a0 :: a1 :: some (.int x) :: t) q (.int x :: st)) : V l G y cc nL ret R mc ms Z post L M cells slots (a0 :: a1 :: some (.int x) :: t) pc (st) := by
  subst hq
  intro p e s m args below meth c r0 r H locs ls hC hZ hW hR hlo hls
  exact lv_iload_n hC.1 hC.2.1 d rfl (hls.at (i := 2) rfl) (k p e s m args below meth c r0 r H locs ls hC hZ hW hR hlo hls)
theorem V_al2 (q : Nat) {a0 a1 : Option Value} {t : List (Option Value)} {x : Nat} (d : decode cc pc = .ok (.aload_n 2, 1)) (hq : pc + 1 = q) (k : V l G y cc nL ret R mc ms Z post L M cells slots (a0 :: a1 :: some (.ref x) :: t) q (.ref x :: st)) : V l G y cc nL ret R mc ms Z post L M cells slots (a0 :: a1 :: some (.ref x) :: t) pc (st) := by
  subst hq
  intro p e s m args below meth c r0 r H locs ls hC hZ hW hR hlo hls
  exact lv_aload_n hC.1 hC.2.1 d rfl (hls.at (i := 2) rfl) (k p e s m args below meth c r0 r H locs ls hC hZ hW hR hlo hls)
theorem V_an2 (q : Nat) {a0 a1 : Option Value} {t : List (Option Value)}  (d : decode cc pc = .ok (.aload_n 2, 1)) (hq : pc + 1 = q) (k : V l G y cc nL ret R mc ms Z post L M cells slots (a0 :: a1 :: some (.null) :: t) q (.null :: st)) : V l G y cc nL ret R mc ms Z post L M cells slots (a0 :: a1 :: some (.null) :: t) pc (st) := by
  subst hq
  intro p e s m args below meth c r0 r H locs ls hC hZ hW hR hlo hls
  exact lv_aload_nN hC.1 hC.2.1 d rfl (hls.at (i := 2) rfl) (k p e s m args below meth c r0 r H locs ls hC hZ hW hR hlo hls)
theorem V_is2 (q : Nat) {a0 a1 b : Option Value} {t : List (Option Value)} {x : Int32} (d : decode cc pc = .ok (.istore_n 2, 1)) (hn : 2 < nL) (hq : pc + 1 = q) (k : V l G y cc nL ret R mc ms Z post L M cells slots (a0 :: a1 :: some (.int x) :: t) q st) : V l G y cc nL ret R mc ms Z post L M cells slots (a0 :: a1 :: b :: t) pc (.int x :: st) := by
  subst hq
  intro p e s m args below meth c r0 r H locs ls hC hZ hW hR hlo hls
  exact lv_istore_n hC.1 hC.2.1 d rfl hls.1 hn rfl (fun ls' h' => k p e s m args below meth c r0 r H locs ls' hC hZ hW hR hlo (gH.set (i := 2) (v := .int x) hls.2 rfl h'))
theorem V_as2 (q : Nat) {a0 a1 b : Option Value} {t : List (Option Value)} {x : Nat} (d : decode cc pc = .ok (.astore_n 2, 1)) (hn : 2 < nL) (hq : pc + 1 = q) (k : V l G y cc nL ret R mc ms Z post L M cells slots (a0 :: a1 :: some (.ref x) :: t) q st) : V l G y cc nL ret R mc ms Z post L M cells slots (a0 :: a1 :: b :: t) pc (.ref x :: st) := by
  subst hq
  intro p e s m args below meth c r0 r H locs ls hC hZ hW hR hlo hls
  exact lv_astore_n hC.1 hC.2.1 d rfl hls.1 hn rfl (fun ls' h' => k p e s m args below meth c r0 r H locs ls' hC hZ hW hR hlo (gH.set (i := 2) (v := .ref x) hls.2 rfl h'))
theorem V_az2 (q : Nat) {a0 a1 b : Option Value} {t : List (Option Value)}  (d : decode cc pc = .ok (.astore_n 2, 1)) (hn : 2 < nL) (hq : pc + 1 = q) (k : V l G y cc nL ret R mc ms Z post L M cells slots (a0 :: a1 :: some (.null) :: t) q st) : V l G y cc nL ret R mc ms Z post L M cells slots (a0 :: a1 :: b :: t) pc (.null :: st) := by
  subst hq
  intro p e s m args below meth c r0 r H locs ls hC hZ hW hR hlo hls
  exact lv_astore_nN hC.1 hC.2.1 d rfl hls.1 hn rfl (fun ls' h' => k p e s m args below meth c r0 r H locs ls' hC hZ hW hR hlo (gH.set (i := 2) (v := .null) hls.2 rfl h'))
theorem V_ii2 (q : Nat) {a0 a1 : Option Value} {t : List (Option Value)} {x v : Int32} {n : Int} (d : decode cc pc = .ok (.iinc 2 n, 3)) (hn : 2 < nL) (hv : Int32.ofInt n = v) (hq : pc + 3 = q) (k : V l G y cc nL ret R mc ms Z post L M cells slots (a0 :: a1 :: some (.int (x + v)) :: t) q st) : V l G y cc nL ret R mc ms Z post L M cells slots (a0 :: a1 :: some (.int x) :: t) pc st := by
  subst hq
  subst hv
  intro p e s m args below meth c r0 r H locs ls hC hZ hW hR hlo hls
  obtain ⟨k9, hk9⟩ := List.getElem?_of_mem (gP_mem.mpr ⟨.int x, rfl, rfl⟩ : (2, Value.int x) ∈ gP r (a0 :: a1 :: some (.int x) :: t))
  exact lv_iinc hC.1 hC.2.1 d hls.1 hk9 rfl hn rfl (fun ls' h' => k p e s m args below meth c r0 r H locs ls' hC hZ hW hR hlo (gH.set (i := 2) (v := .int (x + Int32.ofInt n)) hls.2 rfl h'))
theorem V_il3 (q : Nat) {a0 a1 a2 : Option Value} {t : List (Option Value)} {x : Int32} (d : decode cc pc = .ok (.iload_n 3, 1)) (hq : pc + 1 = q) (k : V l G y cc nL ret R mc ms Z post L M cells slots (a0 :: a1 :: a2 :: some (.int x) :: t) q (.int x :: st)) : V l G y cc nL ret R mc ms Z post L M cells slots (a0 :: a1 :: a2 :: some (.int x) :: t) pc (st) := by
  subst hq
  intro p e s m args below meth c r0 r H locs ls hC hZ hW hR hlo hls
  exact lv_iload_n hC.1 hC.2.1 d rfl (hls.at (i := 3) rfl) (k p e s m args below meth c r0 r H locs ls hC hZ hW hR hlo hls)
theorem V_al3 (q : Nat) {a0 a1 a2 : Option Value} {t : List (Option Value)} {x : Nat} (d : decode cc pc = .ok (.aload_n 3, 1)) (hq : pc + 1 = q) (k : V l G y cc nL ret R mc ms Z post L M cells slots (a0 :: a1 :: a2 :: some (.ref x) :: t) q (.ref x :: st)) : V l G y cc nL ret R mc ms Z post L M cells slots (a0 :: a1 :: a2 :: some (.ref x) :: t) pc (st) := by
  subst hq
  intro p e s m args below meth c r0 r H locs ls hC hZ hW hR hlo hls
  exact lv_aload_n hC.1 hC.2.1 d rfl (hls.at (i := 3) rfl) (k p e s m args below meth c r0 r H locs ls hC hZ hW hR hlo hls)
theorem V_an3 (q : Nat) {a0 a1 a2 : Option Value} {t : List (Option Value)}  (d : decode cc pc = .ok (.aload_n 3, 1)) (hq : pc + 1 = q) (k : V l G y cc nL ret R mc ms Z post L M cells slots (a0 :: a1 :: a2 :: some (.null) :: t) q (.null :: st)) : V l G y cc nL ret R mc ms Z post L M cells slots (a0 :: a1 :: a2 :: some (.null) :: t) pc (st) := by
  subst hq
  intro p e s m args below meth c r0 r H locs ls hC hZ hW hR hlo hls
  exact lv_aload_nN hC.1 hC.2.1 d rfl (hls.at (i := 3) rfl) (k p e s m args below meth c r0 r H locs ls hC hZ hW hR hlo hls)
theorem V_is3 (q : Nat) {a0 a1 a2 b : Option Value} {t : List (Option Value)} {x : Int32} (d : decode cc pc = .ok (.istore_n 3, 1)) (hn : 3 < nL) (hq : pc + 1 = q) (k : V l G y cc nL ret R mc ms Z post L M cells slots (a0 :: a1 :: a2 :: some (.int x) :: t) q st) : V l G y cc nL ret R mc ms Z post L M cells slots (a0 :: a1 :: a2 :: b :: t) pc (.int x :: st) := by
  subst hq
  intro p e s m args below meth c r0 r H locs ls hC hZ hW hR hlo hls
  exact lv_istore_n hC.1 hC.2.1 d rfl hls.1 hn rfl (fun ls' h' => k p e s m args below meth c r0 r H locs ls' hC hZ hW hR hlo (gH.set (i := 3) (v := .int x) hls.2 rfl h'))
theorem V_as3 (q : Nat) {a0 a1 a2 b : Option Value} {t : List (Option Value)} {x : Nat} (d : decode cc pc = .ok (.astore_n 3, 1)) (hn : 3 < nL) (hq : pc + 1 = q) (k : V l G y cc nL ret R mc ms Z post L M cells slots (a0 :: a1 :: a2 :: some (.ref x) :: t) q st) : V l G y cc nL ret R mc ms Z post L M cells slots (a0 :: a1 :: a2 :: b :: t) pc (.ref x :: st) := by
  subst hq
  intro p e s m args below meth c r0 r H locs ls hC hZ hW hR hlo hls
  exact lv_astore_n hC.1 hC.2.1 d rfl hls.1 hn rfl (fun ls' h' => k p e s m args below meth c r0 r H locs ls' hC hZ hW hR hlo (gH.set (i := 3) (v := .ref x) hls.2 rfl h'))
theorem V_az3 (q : Nat) {a0 a1 a2 b : Option Value} {t : List (Option Value)}  (d : decode cc pc = .ok (.astore_n 3, 1)) (hn : 3 < nL) (hq : pc + 1 = q) (k : V l G y cc nL ret R mc ms Z post L M cells slots (a0 :: a1 :: a2 :: some (.null) :: t) q st) : V l G y cc nL ret R mc ms Z post L M cells slots (a0 :: a1 :: a2 :: b :: t) pc (.null :: st) := by
  subst hq
  intro p e s m args below meth c r0 r H locs ls hC hZ hW hR hlo hls
  exact lv_astore_nN hC.1 hC.2.1 d rfl hls.1 hn rfl (fun ls' h' => k p e s m args below meth c r0 r H locs ls' hC hZ hW hR hlo (gH.set (i := 3) (v := .null) hls.2 rfl h'))
theorem V_ii3 (q : Nat) {a0 a1 a2 : Option Value} {t : List (Option Value)} {x v : Int32} {n : Int} (d : decode cc pc = .ok (.iinc 3 n, 3)) (hn : 3 < nL) (hv : Int32.ofInt n = v) (hq : pc + 3 = q) (k : V l G y cc nL ret R mc ms Z post L M cells slots (a0 :: a1 :: a2 :: some (.int (x + v)) :: t) q st) : V l G y cc nL ret R mc ms Z post L M cells slots (a0 :: a1 :: a2 :: some (.int x) :: t) pc st := by
  subst hq
  subst hv
  intro p e s m args below meth c r0 r H locs ls hC hZ hW hR hlo hls
  obtain ⟨k9, hk9⟩ := List.getElem?_of_mem (gP_mem.mpr ⟨.int x, rfl, rfl⟩ : (3, Value.int x) ∈ gP r (a0 :: a1 :: a2 :: some (.int x) :: t))
  exact lv_iinc hC.1 hC.2.1 d hls.1 hk9 rfl hn rfl (fun ls' h' => k p e s m args below meth c r0 r H locs ls' hC hZ hW hR hlo (gH.set (i := 3) (v := .int (x + Int32.ofInt n)) hls.2 rfl h'))
theorem V_il4 (q : Nat) {a0 a1 a2 a3 : Option Value} {t : List (Option Value)} {x : Int32} (d : decode cc pc = .ok (.iload 4, 2)) (hq : pc + 2 = q) (k : V l G y cc nL ret R mc ms Z post L M cells slots (a0 :: a1 :: a2 :: a3 :: some (.int x) :: t) q (.int x :: st)) : V l G y cc nL ret R mc ms Z post L M cells slots (a0 :: a1 :: a2 :: a3 :: some (.int x) :: t) pc (st) := by
  subst hq
  intro p e s m args below meth c r0 r H locs ls hC hZ hW hR hlo hls
  exact lv_iload hC.1 hC.2.1 d (hls.at (i := 4) rfl) (k p e s m args below meth c r0 r H locs ls hC hZ hW hR hlo hls)
theorem V_al4 (q : Nat) {a0 a1 a2 a3 : Option Value} {t : List (Option Value)} {x : Nat} (d : decode cc pc = .ok (.aload 4, 2)) (hq : pc + 2 = q) (k : V l G y cc nL ret R mc ms Z post L M cells slots (a0 :: a1 :: a2 :: a3 :: some (.ref x) :: t) q (.ref x :: st)) : V l G y cc nL ret R mc ms Z post L M cells slots (a0 :: a1 :: a2 :: a3 :: some (.ref x) :: t) pc (st) := by
  subst hq
  intro p e s m args below meth c r0 r H locs ls hC hZ hW hR hlo hls
  exact lv_aload hC.1 hC.2.1 d (hls.at (i := 4) rfl) (k p e s m args below meth c r0 r H locs ls hC hZ hW hR hlo hls)
theorem V_an4 (q : Nat) {a0 a1 a2 a3 : Option Value} {t : List (Option Value)}  (d : decode cc pc = .ok (.aload 4, 2)) (hq : pc + 2 = q) (k : V l G y cc nL ret R mc ms Z post L M cells slots (a0 :: a1 :: a2 :: a3 :: some (.null) :: t) q (.null :: st)) : V l G y cc nL ret R mc ms Z post L M cells slots (a0 :: a1 :: a2 :: a3 :: some (.null) :: t) pc (st) := by
  subst hq
  intro p e s m args below meth c r0 r H locs ls hC hZ hW hR hlo hls
  exact lv_aloadN hC.1 hC.2.1 d (hls.at (i := 4) rfl) (k p e s m args below meth c r0 r H locs ls hC hZ hW hR hlo hls)
theorem V_is4 (q : Nat) {a0 a1 a2 a3 b : Option Value} {t : List (Option Value)} {x : Int32} (d : decode cc pc = .ok (.istore 4, 2)) (hn : 4 < nL) (hq : pc + 2 = q) (k : V l G y cc nL ret R mc ms Z post L M cells slots (a0 :: a1 :: a2 :: a3 :: some (.int x) :: t) q st) : V l G y cc nL ret R mc ms Z post L M cells slots (a0 :: a1 :: a2 :: a3 :: b :: t) pc (.int x :: st) := by
  subst hq
  intro p e s m args below meth c r0 r H locs ls hC hZ hW hR hlo hls
  exact lv_istore hC.1 hC.2.1 d hls.1 hn rfl (fun ls' h' => k p e s m args below meth c r0 r H locs ls' hC hZ hW hR hlo (gH.set (i := 4) (v := .int x) hls.2 rfl h'))
theorem V_as4 (q : Nat) {a0 a1 a2 a3 b : Option Value} {t : List (Option Value)} {x : Nat} (d : decode cc pc = .ok (.astore 4, 2)) (hn : 4 < nL) (hq : pc + 2 = q) (k : V l G y cc nL ret R mc ms Z post L M cells slots (a0 :: a1 :: a2 :: a3 :: some (.ref x) :: t) q st) : V l G y cc nL ret R mc ms Z post L M cells slots (a0 :: a1 :: a2 :: a3 :: b :: t) pc (.ref x :: st) := by
  subst hq
  intro p e s m args below meth c r0 r H locs ls hC hZ hW hR hlo hls
  exact lv_astore hC.1 hC.2.1 d hls.1 hn rfl (fun ls' h' => k p e s m args below meth c r0 r H locs ls' hC hZ hW hR hlo (gH.set (i := 4) (v := .ref x) hls.2 rfl h'))
theorem V_az4 (q : Nat) {a0 a1 a2 a3 b : Option Value} {t : List (Option Value)}  (d : decode cc pc = .ok (.astore 4, 2)) (hn : 4 < nL) (hq : pc + 2 = q) (k : V l G y cc nL ret R mc ms Z post L M cells slots (a0 :: a1 :: a2 :: a3 :: some (.null) :: t) q st) : V l G y cc nL ret R mc ms Z post L M cells slots (a0 :: a1 :: a2 :: a3 :: b :: t) pc (.null :: st) := by
  subst hq
  intro p e s m args below meth c r0 r H locs ls hC hZ hW hR hlo hls
  exact lv_astoreN hC.1 hC.2.1 d hls.1 hn rfl (fun ls' h' => k p e s m args below meth c r0 r H locs ls' hC hZ hW hR hlo (gH.set (i := 4) (v := .null) hls.2 rfl h'))
theorem V_ii4 (q : Nat) {a0 a1 a2 a3 : Option Value} {t : List (Option Value)} {x v : Int32} {n : Int} (d : decode cc pc = .ok (.iinc 4 n, 3)) (hn : 4 < nL) (hv : Int32.ofInt n = v) (hq : pc + 3 = q) (k : V l G y cc nL ret R mc ms Z post L M cells slots (a0 :: a1 :: a2 :: a3 :: some (.int (x + v)) :: t) q st) : V l G y cc nL ret R mc ms Z post L M cells slots (a0 :: a1 :: a2 :: a3 :: some (.int x) :: t) pc st := by
  subst hq
  subst hv
  intro p e s m args below meth c r0 r H locs ls hC hZ hW hR hlo hls
  obtain ⟨k9, hk9⟩ := List.getElem?_of_mem (gP_mem.mpr ⟨.int x, rfl, rfl⟩ : (4, Value.int x) ∈ gP r (a0 :: a1 :: a2 :: a3 :: some (.int x) :: t))
  exact lv_iinc hC.1 hC.2.1 d hls.1 hk9 rfl hn rfl (fun ls' h' => k p e s m args below meth c r0 r H locs ls' hC hZ hW hR hlo (gH.set (i := 4) (v := .int (x + Int32.ofInt n)) hls.2 rfl h'))
theorem V_il5 (q : Nat) {a0 a1 a2 a3 a4 : Option Value} {t : List (Option Value)} {x : Int32} (d : decode cc pc = .ok (.iload 5, 2)) (hq : pc + 2 = q) (k : V l G y cc nL ret R mc ms Z post L M cells slots (a0 :: a1 :: a2 :: a3 :: a4 :: some (.int x) :: t) q (.int x :: st)) : V l G y cc nL ret R mc ms Z post L M cells slots (a0 :: a1 :: a2 :: a3 :: a4 :: some (.int x) :: t) pc (st) := by
  subst hq
  intro p e s m args below meth c r0 r H locs ls hC hZ hW hR hlo hls
  exact lv_iload hC.1 hC.2.1 d (hls.at (i := 5) rfl) (k p e s m args below meth c r0 r H locs ls hC hZ hW hR hlo hls)
theorem V_al5 (q : Nat) {a0 a1 a2 a3 a4 : Option Value} {t : List (Option Value)} {x : Nat} (d : decode cc pc = .ok (.aload 5, 2)) (hq : pc + 2 = q) (k : V l G y cc nL ret R mc ms Z post L M cells slots (a0 :: a1 :: a2 :: a3 :: a4 :: some (.ref x) :: t) q (.ref x :: st)) : V l G y cc nL ret R mc ms Z post L M cells slots (a0 :: a1 :: a2 :: a3 :: a4 :: some (.ref x) :: t) pc (st) := by
  subst hq
  intro p e s m args below meth c r0 r H locs ls hC hZ hW hR hlo hls
  exact lv_aload hC.1 hC.2.1 d (hls.at (i := 5) rfl) (k p e s m args below meth c r0 r H locs ls hC hZ hW hR hlo hls)
theorem V_an5 (q : Nat) {a0 a1 a2 a3 a4 : Option Value} {t : List (Option Value)}  (d : decode cc pc = .ok (.aload 5, 2)) (hq : pc + 2 = q) (k : V l G y cc nL ret R mc ms Z post L M cells slots (a0 :: a1 :: a2 :: a3 :: a4 :: some (.null) :: t) q (.null :: st)) : V l G y cc nL ret R mc ms Z post L M cells slots (a0 :: a1 :: a2 :: a3 :: a4 :: some (.null) :: t) pc (st) := by
  subst hq
  intro p e s m args below meth c r0 r H locs ls hC hZ hW hR hlo hls
  exact lv_aloadN hC.1 hC.2.1 d (hls.at (i := 5) rfl) (k p e s m args below meth c r0 r H locs ls hC hZ hW hR hlo hls)
theorem V_is5 (q : Nat) {a0 a1 a2 a3 a4 b : Option Value} {t : List (Option Value)} {x : Int32} (d : decode cc pc = .ok (.istore 5, 2)) (hn : 5 < nL) (hq : pc + 2 = q) (k : V l G y cc nL ret R mc ms Z post L M cells slots (a0 :: a1 :: a2 :: a3 :: a4 :: some (.int x) :: t) q st) : V l G y cc nL ret R mc ms Z post L M cells slots (a0 :: a1 :: a2 :: a3 :: a4 :: b :: t) pc (.int x :: st) := by
  subst hq
  intro p e s m args below meth c r0 r H locs ls hC hZ hW hR hlo hls
  exact lv_istore hC.1 hC.2.1 d hls.1 hn rfl (fun ls' h' => k p e s m args below meth c r0 r H locs ls' hC hZ hW hR hlo (gH.set (i := 5) (v := .int x) hls.2 rfl h'))
theorem V_as5 (q : Nat) {a0 a1 a2 a3 a4 b : Option Value} {t : List (Option Value)} {x : Nat} (d : decode cc pc = .ok (.astore 5, 2)) (hn : 5 < nL) (hq : pc + 2 = q) (k : V l G y cc nL ret R mc ms Z post L M cells slots (a0 :: a1 :: a2 :: a3 :: a4 :: some (.ref x) :: t) q st) : V l G y cc nL ret R mc ms Z post L M cells slots (a0 :: a1 :: a2 :: a3 :: a4 :: b :: t) pc (.ref x :: st) := by
  subst hq
  intro p e s m args below meth c r0 r H locs ls hC hZ hW hR hlo hls
  exact lv_astore hC.1 hC.2.1 d hls.1 hn rfl (fun ls' h' => k p e s m args below meth c r0 r H locs ls' hC hZ hW hR hlo (gH.set (i := 5) (v := .ref x) hls.2 rfl h'))
theorem V_az5 (q : Nat) {a0 a1 a2 a3 a4 b : Option Value} {t : List (Option Value)}  (d : decode cc pc = .ok (.astore 5, 2)) (hn : 5 < nL) (hq : pc + 2 = q) (k : V l G y cc nL ret R mc ms Z post L M cells slots (a0 :: a1 :: a2 :: a3 :: a4 :: some (.null) :: t) q st) : V l G y cc nL ret R mc ms Z post L M cells slots (a0 :: a1 :: a2 :: a3 :: a4 :: b :: t) pc (.null :: st) := by
  subst hq
  intro p e s m args below meth c r0 r H locs ls hC hZ hW hR hlo hls
  exact lv_astoreN hC.1 hC.2.1 d hls.1 hn rfl (fun ls' h' => k p e s m args below meth c r0 r H locs ls' hC hZ hW hR hlo (gH.set (i := 5) (v := .null) hls.2 rfl h'))
theorem V_ii5 (q : Nat) {a0 a1 a2 a3 a4 : Option Value} {t : List (Option Value)} {x v : Int32} {n : Int} (d : decode cc pc = .ok (.iinc 5 n, 3)) (hn : 5 < nL) (hv : Int32.ofInt n = v) (hq : pc + 3 = q) (k : V l G y cc nL ret R mc ms Z post L M cells slots (a0 :: a1 :: a2 :: a3 :: a4 :: some (.int (x + v)) :: t) q st) : V l G y cc nL ret R mc ms Z post L M cells slots (a0 :: a1 :: a2 :: a3 :: a4 :: some (.int x) :: t) pc st := by
  subst hq
  subst hv
  intro p e s m args below meth c r0 r H locs ls hC hZ hW hR hlo hls
  obtain ⟨k9, hk9⟩ := List.getElem?_of_mem (gP_mem.mpr ⟨.int x, rfl, rfl⟩ : (5, Value.int x) ∈ gP r (a0 :: a1 :: a2 :: a3 :: a4 :: some (.int x) :: t))
  exact lv_iinc hC.1 hC.2.1 d hls.1 hk9 rfl hn rfl (fun ls' h' => k p e s m args below meth c r0 r H locs ls' hC hZ hW hR hlo (gH.set (i := 5) (v := .int (x + Int32.ofInt n)) hls.2 rfl h'))
theorem V_il6 (q : Nat) {a0 a1 a2 a3 a4 a5 : Option Value} {t : List (Option Value)} {x : Int32} (d : decode cc pc = .ok (.iload 6, 2)) (hq : pc + 2 = q) (k : V l G y cc nL ret R mc ms Z post L M cells slots (a0 :: a1 :: a2 :: a3 :: a4 :: a5 :: some (.int x) :: t) q (.int x :: st)) : V l G y cc nL ret R mc ms Z post L M cells slots (a0 :: a1 :: a2 :: a3 :: a4 :: a5 :: some (.int x) :: t) pc (st) := by
  subst hq
  intro p e s m args below meth c r0 r H locs ls hC hZ hW hR hlo hls
  exact lv_iload hC.1 hC.2.1 d (hls.at (i := 6) rfl) (k p e s m args below meth c r0 r H locs ls hC hZ hW hR hlo hls)
theorem V_al6 (q : Nat) {a0 a1 a2 a3 a4 a5 : Option Value} {t : List (Option Value)} {x : Nat} (d : decode cc pc = .ok (.aload 6, 2)) (hq : pc + 2 = q) (k : V l G y cc nL ret R mc ms Z post L M cells slots (a0 :: a1 :: a2 :: a3 :: a4 :: a5 :: some (.ref x) :: t) q (.ref x :: st)) : V l G y cc nL ret R mc ms Z post L M cells slots (a0 :: a1 :: a2 :: a3 :: a4 :: a5 :: some (.ref x) :: t) pc (st) := by
  subst hq
  intro p e s m args below meth c r0 r H locs ls hC hZ hW hR hlo hls
  exact lv_aload hC.1 hC.2.1 d (hls.at (i := 6) rfl) (k p e s m args below meth c r0 r H locs ls hC hZ hW hR hlo hls)
theorem V_an6 (q : Nat) {a0 a1 a2 a3 a4 a5 : Option Value} {t : List (Option Value)}  (d : decode cc pc = .ok (.aload 6, 2)) (hq : pc + 2 = q) (k : V l G y cc nL ret R mc ms Z post L M cells slots (a0 :: a1 :: a2 :: a3 :: a4 :: a5 :: some (.null) :: t) q (.null :: st)) : V l G y cc nL ret R mc ms Z post L M cells slots (a0 :: a1 :: a2 :: a3 :: a4 :: a5 :: some (.null) :: t) pc (st) := by
  subst hq
  intro p e s m args below meth c r0 r H locs ls hC hZ hW hR hlo hls
  exact lv_aloadN hC.1 hC.2.1 d (hls.at (i := 6) rfl) (k p e s m args below meth c r0 r H locs ls hC hZ hW hR hlo hls)
theorem V_is6 (q : Nat) {a0 a1 a2 a3 a4 a5 b : Option Value} {t : List (Option Value)} {x : Int32} (d : decode cc pc = .ok (.istore 6, 2)) (hn : 6 < nL) (hq : pc + 2 = q) (k : V l G y cc nL ret R mc ms Z post L M cells slots (a0 :: a1 :: a2 :: a3 :: a4 :: a5 :: some (.int x) :: t) q st) : V l G y cc nL ret R mc ms Z post L M cells slots (a0 :: a1 :: a2 :: a3 :: a4 :: a5 :: b :: t) pc (.int x :: st) := by
  subst hq
  intro p e s m args below meth c r0 r H locs ls hC hZ hW hR hlo hls
  exact lv_istore hC.1 hC.2.1 d hls.1 hn rfl (fun ls' h' => k p e s m args below meth c r0 r H locs ls' hC hZ hW hR hlo (gH.set (i := 6) (v := .int x) hls.2 rfl h'))
theorem V_as6 (q : Nat) {a0 a1 a2 a3 a4 a5 b : Option Value} {t : List (Option Value)} {x : Nat} (d : decode cc pc = .ok (.astore 6, 2)) (hn : 6 < nL) (hq : pc + 2 = q) (k : V l G y cc nL ret R mc ms Z post L M cells slots (a0 :: a1 :: a2 :: a3 :: a4 :: a5 :: some (.ref x) :: t) q st) : V l G y cc nL ret R mc ms Z post L M cells slots (a0 :: a1 :: a2 :: a3 :: a4 :: a5 :: b :: t) pc (.ref x :: st) := by
  subst hq
  intro p e s m args below meth c r0 r H locs ls hC hZ hW hR hlo hls
  exact lv_astore hC.1 hC.2.1 d hls.1 hn rfl (fun ls' h' => k p e s m args below meth c r0 r H locs ls' hC hZ hW hR hlo (gH.set (i := 6) (v := .ref x) hls.2 rfl h'))
theorem V_az6 (q : Nat) {a0 a1 a2 a3 a4 a5 b : Option Value} {t : List (Option Value)}  (d : decode cc pc = .ok (.astore 6, 2)) (hn : 6 < nL) (hq : pc + 2 = q) (k : V l G y cc nL ret R mc ms Z post L M cells slots (a0 :: a1 :: a2 :: a3 :: a4 :: a5 :: some (.null) :: t) q st) : V l G y cc nL ret R mc ms Z post L M cells slots (a0 :: a1 :: a2 :: a3 :: a4 :: a5 :: b :: t) pc (.null :: st) := by
  subst hq
  intro p e s m args below meth c r0 r H locs ls hC hZ hW hR hlo hls
  exact lv_astoreN hC.1 hC.2.1 d hls.1 hn rfl (fun ls' h' => k p e s m args below meth c r0 r H locs ls' hC hZ hW hR hlo (gH.set (i := 6) (v := .null) hls.2 rfl h'))
theorem V_ii6 (q : Nat) {a0 a1 a2 a3 a4 a5 : Option Value} {t : List (Option Value)} {x v : Int32} {n : Int} (d : decode cc pc = .ok (.iinc 6 n, 3)) (hn : 6 < nL) (hv : Int32.ofInt n = v) (hq : pc + 3 = q) (k : V l G y cc nL ret R mc ms Z post L M cells slots (a0 :: a1 :: a2 :: a3 :: a4 :: a5 :: some (.int (x + v)) :: t) q st) : V l G y cc nL ret R mc ms Z post L M cells slots (a0 :: a1 :: a2 :: a3 :: a4 :: a5 :: some (.int x) :: t) pc st := by
  subst hq
  subst hv
  intro p e s m args below meth c r0 r H locs ls hC hZ hW hR hlo hls
  obtain ⟨k9, hk9⟩ := List.getElem?_of_mem (gP_mem.mpr ⟨.int x, rfl, rfl⟩ : (6, Value.int x) ∈ gP r (a0 :: a1 :: a2 :: a3 :: a4 :: a5 :: some (.int x) :: t))
  exact lv_iinc hC.1 hC.2.1 d hls.1 hk9 rfl hn rfl (fun ls' h' => k p e s m args below meth c r0 r H locs ls' hC hZ hW hR hlo (gH.set (i := 6) (v := .int (x + Int32.ofInt n)) hls.2 rfl h'))
theorem V_il7 (q : Nat) {a0 a1 a2 a3 a4 a5 a6 : Option Value} {t : List (Option Value)} {x : Int32} (d : decode cc pc = .ok (.iload 7, 2)) (hq : pc + 2 = q) (k : V l G y cc nL ret R mc ms Z post L M cells slots (a0 :: a1 :: a2 :: a3 :: a4 :: a5 :: a6 :: some (.int x) :: t) q (.int x :: st)) : V l G y cc nL ret R mc ms Z post L M cells slots (a0 :: a1 :: a2 :: a3 :: a4 :: a5 :: a6 :: some (.int x) :: t) pc (st) := by
  subst hq
  intro p e s m args below meth c r0 r H locs ls hC hZ hW hR hlo hls
  exact lv_iload hC.1 hC.2.1 d (hls.at (i := 7) rfl) (k p e s m args below meth c r0 r H locs ls hC hZ hW hR hlo hls)
theorem V_al7 (q : Nat) {a0 a1 a2 a3 a4 a5 a6 : Option Value} {t : List (Option Value)} {x : Nat} (d : decode cc pc = .ok (.aload 7, 2)) (hq : pc + 2 = q) (k : V l G y cc nL ret R mc ms Z post L M cells slots (a0 :: a1 :: a2 :: a3 :: a4 :: a5 :: a6 :: some (.ref x) :: t) q (.ref x :: st)) : V l G y cc nL ret R mc ms Z post L M cells slots (a0 :: a1 :: a2 :: a3 :: a4 :: a5 :: a6 :: some (.ref x) :: t) pc (st) := by
  subst hq
  intro p e s m args below meth c r0 r H locs ls hC hZ hW hR hlo hls
  exact lv_aload hC.1 hC.2.1 d (hls.at (i := 7) rfl) (k p e s m args below meth c r0 r H locs ls hC hZ hW hR hlo hls)
theorem V_an7 (q : Nat) {a0 a1 a2 a3 a4 a5 a6 : Option Value} {t : List (Option Value)}  (d : decode cc pc = .ok (.aload 7, 2)) (hq : pc + 2 = q) (k : V l G y cc nL ret R mc ms Z post L M cells slots (a0 :: a1 :: a2 :: a3 :: a4 :: a5 :: a6 :: some (.null) :: t) q (.null :: st)) : V l G y cc nL ret R mc ms Z post L M cells slots (a0 :: a1 :: a2 :: a3 :: a4 :: a5 :: a6 :: some (.null) :: t) pc (st) := by
  subst hq
  intro p e s m args below meth c r0 r H locs ls hC hZ hW hR hlo hls
  exact lv_aloadN hC.1 hC.2.1 d (hls.at (i := 7) rfl) (k p e s m args below meth c r0 r H locs ls hC hZ hW hR hlo hls)
theorem V_is7 (q : Nat) {a0 a1 a2 a3 a4 a5 a6 b : Option Value} {t : List (Option Value)} {x : Int32} (d : decode cc pc = .ok (.istore 7, 2)) (hn : 7 < nL) (hq : pc + 2 = q) (k : V l G y cc nL ret R mc ms Z post L M cells slots (a0 :: a1 :: a2 :: a3 :: a4 :: a5 :: a6 :: some (.int x) :: t) q st) : V l G y cc nL ret R mc ms Z post L M cells slots (a0 :: a1 :: a2 :: a3 :: a4 :: a5 :: a6 :: b :: t) pc (.int x :: st) := by
  subst hq
  intro p e s m args below meth c r0 r H locs ls hC hZ hW hR hlo hls
  exact lv_istore hC.1 hC.2.1 d hls.1 hn rfl (fun ls' h' => k p e s m args below meth c r0 r H locs ls' hC hZ hW hR hlo (gH.set (i := 7) (v := .int x) hls.2 rfl h'))
theorem V_as7 (q : Nat) {a0 a1 a2 a3 a4 a5 a6 b : Option Value} {t : List (Option Value)} {x : Nat} (d : decode cc pc = .ok (.astore 7, 2)) (hn : 7 < nL) (hq : pc + 2 = q) (k : V l G y cc nL ret R mc ms Z post L M cells slots (a0 :: a1 :: a2 :: a3 :: a4 :: a5 :: a6 :: some (.ref x) :: t) q st) : V l G y cc nL ret R mc ms Z post L M cells slots (a0 :: a1 :: a2 :: a3 :: a4 :: a5 :: a6 :: b :: t) pc (.ref x :: st) := by
  subst hq
  intro p e s m args below meth c r0 r H locs ls hC hZ hW hR hlo hls
  exact lv_astore hC.1 hC.2.1 d hls.1 hn rfl (fun ls' h' => k p e s m args below meth c r0 r H locs ls' hC hZ hW hR hlo (gH.set (i := 7) (v := .ref x) hls.2 rfl h'))
theorem V_az7 (q : Nat) {a0 a1 a2 a3 a4 a5 a6 b : Option Value} {t : List (Option Value)}  (d : decode cc pc = .ok (.astore 7, 2)) (hn : 7 < nL) (hq : pc + 2 = q) (k : V l G y cc nL ret R mc ms Z post L M cells slots (a0 :: a1 :: a2 :: a3 :: a4 :: a5 :: a6 :: some (.null) :: t) q st) : V l G y cc nL ret R mc ms Z post L M cells slots (a0 :: a1 :: a2 :: a3 :: a4 :: a5 :: a6 :: b :: t) pc (.null :: st) := by
  subst hq
  intro p e s m args below meth c r0 r H locs ls hC hZ hW hR hlo hls
  exact lv_astoreN hC.1 hC.2.1 d hls.1 hn rfl (fun ls' h' => k p e s m args below meth c r0 r H locs ls' hC hZ hW hR hlo (gH.set (i := 7) (v := .null) hls.2 rfl h'))
theorem V_ii7 (q : Nat) {a0 a1 a2 a3 a4 a5 a6 : Option Value} {t : List (Option Value)} {x v : Int32} {n : Int} (d : decode cc pc = .ok (.iinc 7 n, 3)) (hn : 7 < nL) (hv : Int32.ofInt n = v) (hq : pc + 3 = q) (k : V l G y cc nL ret R mc ms Z post L M cells slots (a0 :: a1 :: a2 :: a3 :: a4 :: a5 :: a6 :: some (.int (x + v)) :: t) q st) : V l G y cc nL ret R mc ms Z post L M cells slots (a0 :: a1 :: a2 :: a3 :: a4 :: a5 :: a6 :: some (.int x) :: t) pc st := by
  subst hq
  subst hv
  intro p e s m args below meth c r0 r H locs ls hC hZ hW hR hlo hls
  obtain ⟨k9, hk9⟩ := List.getElem?_of_mem (gP_mem.mpr ⟨.int x, rfl, rfl⟩ : (7, Value.int x) ∈ gP r (a0 :: a1 :: a2 :: a3 :: a4 :: a5 :: a6 :: some (.int x) :: t))
  exact lv_iinc hC.1 hC.2.1 d hls.1 hk9 rfl hn rfl (fun ls' h' => k p e s m args below meth c r0 r H locs ls' hC hZ hW hR hlo (gH.set (i := 7) (v := .int (x + Int32.ofInt n)) hls.2 rfl h'))
theorem V_il8 (q : Nat) {a0 a1 a2 a3 a4 a5 a6 a7 : Option Value} {t : List (Option Value)} {x : Int32} (d : decode cc pc = .ok (.iload 8, 2)) (hq : pc + 2 = q) (k : V l G y cc nL ret R mc ms Z post L M cells slots (a0 :: a1 :: a2 :: a3 :: a4 :: a5 :: a6 :: a7 :: some (.int x) :: t) q (.int x :: st)) : V l G y cc nL ret R mc ms Z post L M cells slots (a0 :: a1 :: a2 :: a3 :: a4 :: a5 :: a6 :: a7 :: some (.int x) :: t) pc (st) := by
  subst hq
  intro p e s m args below meth c r0 r H locs ls hC hZ hW hR hlo hls
  exact lv_iload hC.1 hC.2.1 d (hls.at (i := 8) rfl) (k p e s m args below meth c r0 r H locs ls hC hZ hW hR hlo hls)
theorem V_al8 (q : Nat) {a0 a1 a2 a3 a4 a5 a6 a7 : Option Value} {t : List (Option Value)} {x : Nat} (d : decode cc pc = .ok (.aload 8, 2)) (hq : pc + 2 = q) (k : V l G y cc nL ret R mc ms Z post L M cells slots (a0 :: a1 :: a2 :: a3 :: a4 :: a5 :: a6 :: a7 :: some (.ref x) :: t) q (.ref x :: st)) : V l G y cc nL ret R mc ms Z post L M cells slots (a0 :: a1 :: a2 :: a3 :: a4 :: a5 :: a6 :: a7 :: some (.ref x) :: t) pc (st) := by
  subst hq
  intro p e s m args below meth c r0 r H locs ls hC hZ hW hR hlo hls
  exact lv_aload hC.1 hC.2.1 d (hls.at (i := 8) rfl) (k p e s m args below meth c r0 r H locs ls hC hZ hW hR hlo hls)
theorem V_an8 (q : Nat) {a0 a1 a2 a3 a4 a5 a6 a7 : Option Value} {t : List (Option Value)}  (d : decode cc pc = .ok (.aload 8, 2)) (hq : pc + 2 = q) (k : V l G y cc nL ret R mc ms Z post L M cells slots (a0 :: a1 :: a2 :: a3 :: a4 :: a5 :: a6 :: a7 :: some (.null) :: t) q (.null :: st)) : V l G y cc nL ret R mc ms Z post L M cells slots (a0 :: a1 :: a2 :: a3 :: a4 :: a5 :: a6 :: a7 :: some (.null) :: t) pc (st) := by
  subst hq
  intro p e s m args below meth c r0 r H locs ls hC hZ hW hR hlo hls
  exact lv_aloadN hC.1 hC.2.1 d (hls.at (i := 8) rfl) (k p e s m args below meth c r0 r H locs ls hC hZ hW hR hlo hls)
theorem V_is8 (q : Nat) {a0 a1 a2 a3 a4 a5 a6 a7 b : Option Value} {t : List (Option Value)} {x : Int32} (d : decode cc pc = .ok (.istore 8, 2)) (hn : 8 < nL) (hq : pc + 2 = q) (k : V l G y cc nL ret R mc ms Z post L M cells slots (a0 :: a1 :: a2 :: a3 :: a4 :: a5 :: a6 :: a7 :: some (.int x) :: t) q st) : V l G y cc nL ret R mc ms Z post L M cells slots (a0 :: a1 :: a2 :: a3 :: a4 :: a5 :: a6 :: a7 :: b :: t) pc (.int x :: st) := by
  subst hq
  intro p e s m args below meth c r0 r H locs ls hC hZ hW hR hlo hls
  exact lv_istore hC.1 hC.2.1 d hls.1 hn rfl (fun ls' h' => k p e s m args below meth c r0 r H locs ls' hC hZ hW hR hlo (gH.set (i := 8) (v := .int x) hls.2 rfl h'))
theorem V_as8 (q : Nat) {a0 a1 a2 a3 a4 a5 a6 a7 b : Option Value} {t : List (Option Value)} {x : Nat} (d : decode cc pc = .ok (.astore 8, 2)) (hn : 8 < nL) (hq : pc + 2 = q) (k : V l G y cc nL ret R mc ms Z post L M cells slots (a0 :: a1 :: a2 :: a3 :: a4 :: a5 :: a6 :: a7 :: some (.ref x) :: t) q st) : V l G y cc nL ret R mc ms Z post L M cells slots (a0 :: a1 :: a2 :: a3 :: a4 :: a5 :: a6 :: a7 :: b :: t) pc (.ref x :: st) := by
  subst hq
  intro p e s m args below meth c r0 r H locs ls hC hZ hW hR hlo hls
  exact lv_astore hC.1 hC.2.1 d hls.1 hn rfl (fun ls' h' => k p e s m args below meth c r0 r H locs ls' hC hZ hW hR hlo (gH.set (i := 8) (v := .ref x) hls.2 rfl h'))
theorem V_az8 (q : Nat) {a0 a1 a2 a3 a4 a5 a6 a7 b : Option Value} {t : List (Option Value)}  (d : decode cc pc = .ok (.astore 8, 2)) (hn : 8 < nL) (hq : pc + 2 = q) (k : V l G y cc nL ret R mc ms Z post L M cells slots (a0 :: a1 :: a2 :: a3 :: a4 :: a5 :: a6 :: a7 :: some (.null) :: t) q st) : V l G y cc nL ret R mc ms Z post L M cells slots (a0 :: a1 :: a2 :: a3 :: a4 :: a5 :: a6 :: a7 :: b :: t) pc (.null :: st) := by
  subst hq
  intro p e s m args below meth c r0 r H locs ls hC hZ hW hR hlo hls
  exact lv_astoreN hC.1 hC.2.1 d hls.1 hn rfl (fun ls' h' => k p e s m args below meth c r0 r H locs ls' hC hZ hW hR hlo (gH.set (i := 8) (v := .null) hls.2 rfl h'))
theorem V_ii8 (q : Nat) {a0 a1 a2 a3 a4 a5 a6 a7 : Option Value} {t : List (Option Value)} {x v : Int32} {n : Int} (d : decode cc pc = .ok (.iinc 8 n, 3)) (hn : 8 < nL) (hv : Int32.ofInt n = v) (hq : pc + 3 = q) (k : V l G y cc nL ret R mc ms Z post L M cells slots (a0 :: a1 :: a2 :: a3 :: a4 :: a5 :: a6 :: a7 :: some (.int (x + v)) :: t) q st) : V l G y cc nL ret R mc ms Z post L M cells slots (a0 :: a1 :: a2 :: a3 :: a4 :: a5 :: a6 :: a7 :: some (.int x) :: t) pc st := by
  subst hq
  subst hv
  intro p e s m args below meth c r0 r H locs ls hC hZ hW hR hlo hls
  obtain ⟨k9, hk9⟩ := List.getElem?_of_mem (gP_mem.mpr ⟨.int x, rfl, rfl⟩ : (8, Value.int x) ∈ gP r (a0 :: a1 :: a2 :: a3 :: a4 :: a5 :: a6 :: a7 :: some (.int x) :: t))
  exact lv_iinc hC.1 hC.2.1 d hls.1 hk9 rfl hn rfl (fun ls' h' => k p e s m args below meth c r0 r H locs ls' hC hZ hW hR hlo (gH.set (i := 8) (v := .int (x + Int32.ofInt n)) hls.2 rfl h'))
theorem V_il9 (q : Nat) {a0 a1 a2 a3 a4 a5 a6 a7 a8 : Option Value} {t : List (Option Value)} {x : Int32} (d : decode cc pc = .ok (.iload 9, 2)) (hq : pc + 2 = q) (k : V l G y cc nL ret R mc ms Z post L M cells slots (a0 :: a1 :: a2 :: a3 :: a4 :: a5 :: a6 :: a7 :: a8 :: some (.int x) :: t) q (.int x :: st)) : V l G y cc nL ret R mc ms Z post L M cells slots (a0 :: a1 :: a2 :: a3 :: a4 :: a5 :: a6 :: a7 :: a8 :: some (.int x) :: t) pc (st) := by
  subst hq
  intro p e s m args below meth c r0 r H locs ls hC hZ hW hR hlo hls
  exact lv_iload hC.1 hC.2.1 d (hls.at (i := 9) rfl) (k p e s m args below meth c r0 r H locs ls hC hZ hW hR hlo hls)
theorem V_al9 (q : Nat) {a0 a1 a2 a3 a4 a5 a6 a7 a8 : Option Value} {t : List (Option Value)} {x : Nat} (d : decode cc pc = .ok (.aload 9, 2)) (hq : pc + 2 = q) (k : V l G y cc nL ret R mc ms Z post L M cells slots (a0 :: a1 :: a2 :: a3 :: a4 :: a5 :: a6 :: a7 :: a8 :: some (.ref x) :: t) q (.ref x :: st)) : V l G y cc nL ret R mc ms Z post L M cells slots (a0 :: a1 :: a2 :: a3 :: a4 :: a5 :: a6 :: a7 :: a8 :: some (.ref x) :: t) pc (st) := by
  subst hq
  intro p e s m args below meth c r0 r H locs ls hC hZ hW hR hlo hls
  exact lv_aload hC.1 hC.2.1 d (hls.at (i := 9) rfl) (k p e s m args below meth c r0 r H locs ls hC hZ hW hR hlo hls)
theorem V_an9 (q : Nat) {a0 a1 a2 a3 a4 a5 a6 a7 a8 : Option Value} {t : List (Option Value)}  (d : decode cc pc = .ok (.aload 9, 2)) (hq : pc + 2 = q) (k : V l G y cc nL ret R mc ms Z post L M cells slots (a0 :: a1 :: a2 :: a3 :: a4 :: a5 :: a6 :: a7 :: a8 :: some (.null) :: t) q (.null :: st)) : V l G y cc nL ret R mc ms Z post L M cells slots (a0 :: a1 :: a2 :: a3 :: a4 :: a5 :: a6 :: a7 :: a8 :: some (.null) :: t) pc (st) := by
  subst hq
  intro p e s m args below meth c r0 r H locs ls hC hZ hW hR hlo hls
  exact lv_aloadN hC.1 hC.2.1 d (hls.at (i := 9) rfl) (k p e s m args below meth c r0 r H locs ls hC hZ hW hR hlo hls)
theorem V_is9 (q : Nat) {a0 a1 a2 a3 a4 a5 a6 a7 a8 b : Option Value} {t : List (Option Value)} {x : Int32} (d : decode cc pc = .ok (.istore 9, 2)) (hn : 9 < nL) (hq : pc + 2 = q) (k : V l G y cc nL ret R mc ms Z post L M cells slots (a0 :: a1 :: a2 :: a3 :: a4 :: a5 :: a6 :: a7 :: a8 :: some (.int x) :: t) q st) : V l G y cc nL ret R mc ms Z post L M cells slots (a0 :: a1 :: a2 :: a3 :: a4 :: a5 :: a6 :: a7 :: a8 :: b :: t) pc (.int x :: st) := by
  subst hq
  intro p e s m args below meth c r0 r H locs ls hC hZ hW hR hlo hls
  exact lv_istore hC.1 hC.2.1 d hls.1 hn rfl (fun ls' h' => k p e s m args below meth c r0 r H locs ls' hC hZ hW hR hlo (gH.set (i := 9) (v := .int x) hls.2 rfl h'))
theorem V_as9 (q : Nat) {a0 a1 a2 a3 a4 a5 a6 a7 a8 b : Option Value} {t : List (Option Value)} {x : Nat} (d : decode cc pc = .ok (.astore 9, 2)) (hn : 9 < nL) (hq : pc + 2 = q) (k : V l G y cc nL ret R mc ms Z post L M cells slots (a0 :: a1 :: a2 :: a3 :: a4 :: a5 :: a6 :: a7 :: a8 :: some (.ref x) :: t) q st) : V l G y cc nL ret R mc ms Z post L M cells slots (a0 :: a1 :: a2 :: a3 :: a4 :: a5 :: a6 :: a7 :: a8 :: b :: t) pc (.ref x :: st) := by
  subst hq
  intro p e s m args below meth c r0 r H locs ls hC hZ hW hR hlo hls
  exact lv_astore hC.1 hC.2.1 d hls.1 hn rfl (fun ls' h' => k p e s m args below meth c r0 r H locs ls' hC hZ hW hR hlo (gH.set (i := 9) (v := .ref x) hls.2 rfl h'))
theorem V_az9 (q : Nat) {a0 a1 a2 a3 a4 a5 a6 a7 a8 b : Option Value} {t : List (Option Value)}  (d : decode cc pc = .ok (.astore 9, 2)) (hn : 9 < nL) (hq : pc + 2 = q) (k : V l G y cc nL ret R mc ms Z post L M cells slots (a0 :: a1 :: a2 :: a3 :: a4 :: a5 :: a6 :: a7 :: a8 :: some (.null) :: t) q st) : V l G y cc nL ret R mc ms Z post L M cells slots (a0 :: a1 :: a2 :: a3 :: a4 :: a5 :: a6 :: a7 :: a8 :: b :: t) pc (.null :: st) := by
  subst hq
  intro p e s m args below meth c r0 r H locs ls hC hZ hW hR hlo hls
  exact lv_astoreN hC.1 hC.2.1 d hls.1 hn rfl (fun ls' h' => k p e s m args below meth c r0 r H locs ls' hC hZ hW hR hlo (gH.set (i := 9) (v := .null) hls.2 rfl h'))
theorem V_ii9 (q : Nat) {a0 a1 a2 a3 a4 a5 a6 a7 a8 : Option Value} {t : List (Option Value)} {x v : Int32} {n : Int} (d : decode cc pc = .ok (.iinc 9 n, 3)) (hn : 9 < nL) (hv : Int32.ofInt n = v) (hq : pc + 3 = q) (k : V l G y cc nL ret R mc ms Z post L M cells slots (a0 :: a1 :: a2 :: a3 :: a4 :: a5 :: a6 :: a7 :: a8 :: some (.int (x + v)) :: t) q st) : V l G y cc nL ret R mc ms Z post L M cells slots (a0 :: a1 :: a2 :: a3 :: a4 :: a5 :: a6 :: a7 :: a8 :: some (.int x) :: t) pc st := by
  subst hq
  subst hv
  intro p e s m args below meth c r0 r H locs ls hC hZ hW hR hlo hls
  obtain ⟨k9, hk9⟩ := List.getElem?_of_mem (gP_mem.mpr ⟨.int x, rfl, rfl⟩ : (9, Value.int x) ∈ gP r (a0 :: a1 :: a2 :: a3 :: a4 :: a5 :: a6 :: a7 :: a8 :: some (.int x) :: t))
  exact lv_iinc hC.1 hC.2.1 d hls.1 hk9 rfl hn rfl (fun ls' h' => k p e s m args below meth c r0 r H locs ls' hC hZ hW hR hlo (gH.set (i := 9) (v := .int (x + Int32.ofInt n)) hls.2 rfl h'))
theorem V_il10 (q : Nat) {a0 a1 a2 a3 a4 a5 a6 a7 a8 a9 : Option Value} {t : List (Option Value)} {x : Int32} (d : decode cc pc = .ok (.iload 10, 2)) (hq : pc + 2 = q) (k : V l G y cc nL ret R mc ms Z post L M cells slots (a0 :: a1 :: a2 :: a3 :: a4 :: a5 :: a6 :: a7 :: a8 :: a9 :: some (.int x) :: t) q (.int x :: st)) : V l G y cc nL ret R mc ms Z post L M cells slots (a0 :: a1 :: a2 :: a3 :: a4 :: a5 :: a6 :: a7 :: a8 :: a9 :: some (.int x) :: t) pc (st) := by
  subst hq
  intro p e s m args below meth c r0 r H locs ls hC hZ hW hR hlo hls
  exact lv_iload hC.1 hC.2.1 d (hls.at (i := 10) rfl) (k p e s m args below meth c r0 r H locs ls hC hZ hW hR hlo hls)
theorem V_al10 (q : Nat) {a0 a1 a2 a3 a4 a5 a6 a7 a8 a9 : Option Value} {t : List (Option Value)} {x : Nat} (d : decode cc pc = .ok (.aload 10, 2)) (hq : pc + 2 = q) (k : V l G y cc nL ret R mc ms Z post L M cells slots (a0 :: a1 :: a2 :: a3 :: a4 :: a5 :: a6 :: a7 :: a8 :: a9 :: some (.ref x) :: t) q (.ref x :: st)) : V l G y cc nL ret R mc ms Z post L M cells slots (a0 :: a1 :: a2 :: a3 :: a4 :: a5 :: a6 :: a7 :: a8 :: a9 :: some (.ref x) :: t) pc (st) := by
  subst hq
  intro p e s m args below meth c r0 r H locs ls hC hZ hW hR hlo hls
  exact lv_aload hC.1 hC.2.1 d (hls.at (i := 10) rfl) (k p e s m args below meth c r0 r H locs ls hC hZ hW hR hlo hls)
theorem V_an10 (q : Nat) {a0 a1 a2 a3 a4 a5 a6 a7 a8 a9 : Option Value} {t : List (Option Value)}  (d : decode cc pc = .ok (.aload 10, 2)) (hq : pc + 2 = q) (k : V l G y cc nL ret R mc ms Z post L M cells slots (a0 :: a1 :: a2 :: a3 :: a4 :: a5 :: a6 :: a7 :: a8 :: a9 :: some (.null) :: t) q (.null :: st)) : V l G y cc nL ret R mc ms Z post L M cells slots (a0 :: a1 :: a2 :: a3 :: a4 :: a5 :: a6 :: a7 :: a8 :: a9 :: some (.null) :: t) pc (st) := by
  subst hq
  intro p e s m args below meth c r0 r H locs ls hC hZ hW hR hlo hls
  exact lv_aloadN hC.1 hC.2.1 d (hls.at (i := 10) rfl) (k p e s m args below meth c r0 r H locs ls hC hZ hW hR hlo hls)
theorem V_is10 (q : Nat) {a0 a1 a2 a3 a4 a5 a6 a7 a8 a9 b : Option Value} {t : List (Option Value)} {x : Int32} (d : decode cc pc = .ok (.istore 10, 2)) (hn : 10 < nL) (hq : pc + 2 = q) (k : V l G y cc nL ret R mc ms Z post L M cells slots (a0 :: a1 :: a2 :: a3 :: a4 :: a5 :: a6 :: a7 :: a8 :: a9 :: some (.int x) :: t) q st) : V l G y cc nL ret R mc ms Z post L M cells slots (a0 :: a1 :: a2 :: a3 :: a4 :: a5 :: a6 :: a7 :: a8 :: a9 :: b :: t) pc (.int x :: st) := by
  subst hq
  intro p e s m args below meth c r0 r H locs ls hC hZ hW hR hlo hls
  exact lv_istore hC.1 hC.2.1 d hls.1 hn rfl (fun ls' h' => k p e s m args below meth c r0 r H locs ls' hC hZ hW hR hlo (gH.set (i := 10) (v := .int x) hls.2 rfl h'))
theorem V_as10 (q : Nat) {a0 a1 a2 a3 a4 a5 a6 a7 a8 a9 b : Option Value} {t : List (Option Value)} {x : Nat} (d : decode cc pc = .ok (.astore 10, 2)) (hn : 10 < nL) (hq : pc + 2 = q) (k : V l G y cc nL ret R mc ms Z post L M cells slots (a0 :: a1 :: a2 :: a3 :: a4 :: a5 :: a6 :: a7 :: a8 :: a9 :: some (.ref x) :: t) q st) : V l G y cc nL ret R mc ms Z post L M cells slots (a0 :: a1 :: a2 :: a3 :: a4 :: a5 :: a6 :: a7 :: a8 :: a9 :: b :: t) pc (.ref x :: st) := by
  subst hq
  intro p e s m args below meth c r0 r H locs ls hC hZ hW hR hlo hls
  exact lv_astore hC.1 hC.2.1 d hls.1 hn rfl (fun ls' h' => k p e s m args below meth c r0 r H locs ls' hC hZ hW hR hlo (gH.set (i := 10) (v := .ref x) hls.2 rfl h'))
theorem V_az10 (q : Nat) {a0 a1 a2 a3 a4 a5 a6 a7 a8 a9 b : Option Value} {t : List (Option Value)}  (d : decode cc pc = .ok (.astore 10, 2)) (hn : 10 < nL) (hq : pc + 2 = q) (k : V l G y cc nL ret R mc ms Z post L M cells slots (a0 :: a1 :: a2 :: a3 :: a4 :: a5 :: a6 :: a7 :: a8 :: a9 :: some (.null) :: t) q st) : V l G y cc nL ret R mc ms Z post L M cells slots (a0 :: a1 :: a2 :: a3 :: a4 :: a5 :: a6 :: a7 :: a8 :: a9 :: b :: t) pc (.null :: st) := by
  subst hq
  intro p e s m args below meth c r0 r H locs ls hC hZ hW hR hlo hls
  exact lv_astoreN hC.1 hC.2.1 d hls.1 hn rfl (fun ls' h' => k p e s m args below meth c r0 r H locs ls' hC hZ hW hR hlo (gH.set (i := 10) (v := .null) hls.2 rfl h'))
theorem V_ii10 (q : Nat) {a0 a1 a2 a3 a4 a5 a6 a7 a8 a9 : Option Value} {t : List (Option Value)} {x v : Int32} {n : Int} (d : decode cc pc = .ok (.iinc 10 n, 3)) (hn : 10 < nL) (hv : Int32.ofInt n = v) (hq : pc + 3 = q) (k : V l G y cc nL ret R mc ms Z post L M cells slots (a0 :: a1 :: a2 :: a3 :: a4 :: a5 :: a6 :: a7 :: a8 :: a9 :: some (.int (x + v)) :: t) q st) : V l G y cc nL ret R mc ms Z post L M cells slots (a0 :: a1 :: a2 :: a3 :: a4 :: a5 :: a6 :: a7 :: a8 :: a9 :: some (.int x) :: t) pc st := by
  subst hq
  subst hv
  intro p e s m args below meth c r0 r H locs ls hC hZ hW hR hlo hls
  obtain ⟨k9, hk9⟩ := List.getElem?_of_mem (gP_mem.mpr ⟨.int x, rfl, rfl⟩ : (10, Value.int x) ∈ gP r (a0 :: a1 :: a2 :: a3 :: a4 :: a5 :: a6 :: a7 :: a8 :: a9 :: some (.int x) :: t))
  exact lv_iinc hC.1 hC.2.1 d hls.1 hk9 rfl hn rfl (fun ls' h' => k p e s m args below meth c r0 r H locs ls' hC hZ hW hR hlo (gH.set (i := 10) (v := .int (x + Int32.ofInt n)) hls.2 rfl h'))
theorem V_il11 (q : Nat) {a0 a1 a2 a3 a4 a5 a6 a7 a8 a9 a10 : Option Value} {t : List (Option Value)} {x : Int32} (d : decode cc pc = .ok (.iload 11, 2)) (hq : pc + 2 = q) (k : V l G y cc nL ret R mc ms Z post L M cells slots (a0 :: a1 :: a2 :: a3 :: a4 :: a5 :: a6 :: a7 :: a8 :: a9 :: a10 :: some (.int x) :: t) q (.int x :: st)) : V l G y cc nL ret R mc ms Z post L M cells slots (a0 :: a1 :: a2 :: a3 :: a4 :: a5 :: a6 :: a7 :: a8 :: a9 :: a10 :: some (.int x) :: t) pc (st) := by
  subst hq
  intro p e s m args below meth c r0 r H locs ls hC hZ hW hR hlo hls
  exact lv_iload hC.1 hC.2.1 d (hls.at (i := 11) rfl) (k p e s m args below meth c r0 r H locs ls hC hZ hW hR hlo hls)
theorem V_al11 (q : Nat) {a0 a1 a2 a3 a4 a5 a6 a7 a8 a9 a10 : Option Value} {t : List (Option Value)} {x : Nat} (d : decode cc pc = .ok (.aload 11, 2)) (hq : pc + 2 = q) (k : V l G y cc nL ret R mc ms Z post L M cells slots (a0 :: a1 :: a2 :: a3 :: a4 :: a5 :: a6 :: a7 :: a8 :: a9 :: a10 :: some (.ref x) :: t) q (.ref x :: st)) : V l G y cc nL ret R mc ms Z post L M cells slots (a0 :: a1 :: a2 :: a3 :: a4 :: a5 :: a6 :: a7 :: a8 :: a9 :: a10 :: some (.ref x) :: t) pc (st) := by
  subst hq
  intro p e s m args below meth c r0 r H locs ls hC hZ hW hR hlo hls
  exact lv_aload hC.1 hC.2.1 d (hls.at (i := 11) rfl) (k p e s m args below meth c r0 r H locs ls hC hZ hW hR hlo hls)
theorem V_an11 (q : Nat) {a0 a1 a2 a3 a4 a5 a6 a7 a8 a9 a10 : Option Value} {t : List (Option Value)}  (d : decode cc pc = .ok (.aload 11, 2)) (hq : pc + 2 = q) (k : V l G y cc nL ret R mc ms Z post L M cells slots (a0 :: a1 :: a2 :: a3 :: a4 :: a5 :: a6 :: a7 :: a8 :: a9 :: a10 :: some (.null) :: t) q (.null :: st)) : V l G y cc nL ret R mc ms Z post L M cells slots (a0 :: a1 :: a2 :: a3 :: a4 :: a5 :: a6 :: a7 :: a8 :: a9 :: a10 :: some (.null) :: t) pc (st) := by
  subst hq
  intro p e s m args below meth c r0 r H locs ls hC hZ hW hR hlo hls
  exact lv_aloadN hC.1 hC.2.1 d (hls.at (i := 11) rfl) (k p e s m args below meth c r0 r H locs ls hC hZ hW hR hlo hls)
theorem V_is11 (q : Nat) {a0 a1 a2 a3 a4 a5 a6 a7 a8 a9 a10 b : Option Value} {t : List (Option Value)} {x : Int32} (d : decode cc pc = .ok (.istore 11, 2)) (hn : 11 < nL) (hq : pc + 2 = q) (k : V l G y cc nL ret R mc ms Z post L M cells slots (a0 :: a1 :: a2 :: a3 :: a4 :: a5 :: a6 :: a7 :: a8 :: a9 :: a10 :: some (.int x) :: t) q st) : V l G y cc nL ret R mc ms Z post L M cells slots (a0 :: a1 :: a2 :: a3 :: a4 :: a5 :: a6 :: a7 :: a8 :: a9 :: a10 :: b :: t) pc (.int x :: st) := by
  subst hq
  intro p e s m args below meth c r0 r H locs ls hC hZ hW hR hlo hls
  exact lv_istore hC.1 hC.2.1 d hls.1 hn rfl (fun ls' h' => k p e s m args below meth c r0 r H locs ls' hC hZ hW hR hlo (gH.set (i := 11) (v := .int x) hls.2 rfl h'))
theorem V_as11 (q : Nat) {a0 a1 a2 a3 a4 a5 a6 a7 a8 a9 a10 b : Option Value} {t : List (Option Value)} {x : Nat} (d : decode cc pc = .ok (.astore 11, 2)) (hn : 11 < nL) (hq : pc + 2 = q) (k : V l G y cc nL ret R mc ms Z post L M cells slots (a0 :: a1 :: a2 :: a3 :: a4 :: a5 :: a6 :: a7 :: a8 :: a9 :: a10 :: some (.ref x) :: t) q st) : V l G y cc nL ret R mc ms Z post L M cells slots (a0 :: a1 :: a2 :: a3 :: a4 :: a5 :: a6 :: a7 :: a8 :: a9 :: a10 :: b :: t) pc (.ref x :: st) := by
  subst hq
  intro p e s m args below meth c r0 r H locs ls hC hZ hW hR hlo hls
  exact lv_astore hC.1 hC.2.1 d hls.1 hn rfl (fun ls' h' => k p e s m args below meth c r0 r H locs ls' hC hZ hW hR hlo (gH.set (i := 11) (v := .ref x) hls.2 rfl h'))
theorem V_az11 (q : Nat) {a0 a1 a2 a3 a4 a5 a6 a7 a8 a9 a10 b : Option Value} {t : List (Option Value)}  (d : decode cc pc = .ok (.astore 11, 2)) (hn : 11 < nL) (hq : pc + 2 = q) (k : V l G y cc nL ret R mc ms Z post L M cells slots (a0 :: a1 :: a2 :: a3 :: a4 :: a5 :: a6 :: a7 :: a8 :: a9 :: a10 :: some (.null) :: t) q st) : V l G y cc nL ret R mc ms Z post L M cells slots (a0 :: a1 :: a2 :: a3 :: a4 :: a5 :: a6 :: a7 :: a8 :: a9 :: a10 :: b :: t) pc (.null :: st) := by
  subst hq
  intro p e s m args below meth c r0 r H locs ls hC hZ hW hR hlo hls
  exact lv_astoreN hC.1 hC.2.1 d hls.1 hn rfl (fun ls' h' => k p e s m args below meth c r0 r H locs ls' hC hZ hW hR hlo (gH.set (i := 11) (v := .null) hls.2 rfl h'))
theorem V_ii11 (q : Nat) {a0 a1 a2 a3 a4 a5 a6 a7 a8 a9 a10 : Option Value} {t : List (Option Value)} {x v : Int32} {n : Int} (d : decode cc pc = .ok (.iinc 11 n, 3)) (hn : 11 < nL) (hv : Int32.ofInt n = v) (hq : pc + 3 = q) (k : V l G y cc nL ret R mc ms Z post L M cells slots (a0 :: a1 :: a2 :: a3 :: a4 :: a5 :: a6 :: a7 :: a8 :: a9 :: a10 :: some (.int (x + v)) :: t) q st) : V l G y cc nL ret R mc ms Z post L M cells slots (a0 :: a1 :: a2 :: a3 :: a4 :: a5 :: a6 :: a7 :: a8 :: a9 :: a10 :: some (.int x) :: t) pc st := by
  subst hq
  subst hv
  intro p e s m args below meth c r0 r H locs ls hC hZ hW hR hlo hls
  obtain ⟨k9, hk9⟩ := List.getElem?_of_mem (gP_mem.mpr ⟨.int x, rfl, rfl⟩ : (11, Value.int x) ∈ gP r (a0 :: a1 :: a2 :: a3 :: a4 :: a5 :: a6 :: a7 :: a8 :: a9 :: a10 :: some (.int x) :: t))
  exact lv_iinc hC.1 hC.2.1 d hls.1 hk9 rfl hn rfl (fun ls' h' => k p e s m args below meth c r0 r H locs ls' hC hZ hW hR hlo (gH.set (i := 11) (v := .int (x + Int32.ofInt n)) hls.2 rfl h'))
theorem V_il12 (q : Nat) {a0 a1 a2 a3 a4 a5 a6 a7 a8 a9 a10 a11 : Option Value} {t : List (Option Value)} {x : Int32} (d : decode cc pc = .ok (.iload 12, 2)) (hq : pc + 2 = q) (k : V l G y cc nL ret R mc ms Z post L M cells slots (a0 :: a1 :: a2 :: a3 :: a4 :: a5 :: a6 :: a7 :: a8 :: a9 :: a10 :: a11 :: some (.int x) :: t) q (.int x :: st)) : V l G y cc nL ret R mc ms Z post L M cells slots (a0 :: a1 :: a2 :: a3 :: a4 :: a5 :: a6 :: a7 :: a8 :: a9 :: a10 :: a11 :: some (.int x) :: t) pc (st) := by
  subst hq
  intro p e s m args below meth c r0 r H locs ls hC hZ hW hR hlo hls
  exact lv_iload hC.1 hC.2.1 d (hls.at (i := 12) rfl) (k p e s m args below meth c r0 r H locs ls hC hZ hW hR hlo hls)
theorem V_al12 (q : Nat) {a0 a1 a2 a3 a4 a5 a6 a7 a8 a9 a10 a11 : Option Value} {t : List (Option Value)} {x : Nat} (d : decode cc pc = .ok (.aload 12, 2)) (hq : pc + 2 = q) (k : V l G y cc nL ret R mc ms Z post L M cells slots (a0 :: a1 :: a2 :: a3 :: a4 :: a5 :: a6 :: a7 :: a8 :: a9 :: a10 :: a11 :: some (.ref x) :: t) q (.ref x :: st)) : V l G y cc nL ret R mc ms Z post L M cells slots (a0 :: a1 :: a2 :: a3 :: a4 :: a5 :: a6 :: a7 :: a8 :: a9 :: a10 :: a11 :: some (.ref x) :: t) pc (st) := by
  subst hq
  intro p e s m args below meth c r0 r H locs ls hC hZ hW hR hlo hls
  exact lv_aload hC.1 hC.2.1 d (hls.at (i := 12) rfl) (k p e s m args below meth c r0 r H locs ls hC hZ hW hR hlo hls)
theorem V_an12 (q : Nat) {a0 a1 a2 a3 a4 a5 a6 a7 a8 a9 a10 a11 : Option Value} {t : List (Option Value)}  (d : decode cc pc = .ok (.aload 12, 2)) (hq : pc + 2 = q) (k : V l G y cc nL ret R mc ms Z post L M cells slots (a0 :: a1 :: a2 :: a3 :: a4 :: a5 :: a6 :: a7 :: a8 :: a9 :: a10 :: a11 :: some (.null) :: t) q (.null :: st)) : V l G y cc nL ret R mc ms Z post L M cells slots (a0 :: a1 :: a2 :: a3 :: a4 :: a5 :: a6 :: a7 :: a8 :: a9 :: a10 :: a11 :: some (.null) :: t) pc (st) := by
  subst hq
  intro p e s m args below meth c r0 r H locs ls hC hZ hW hR hlo hls
  exact lv_aloadN hC.1 hC.2.1 d (hls.at (i := 12) rfl) (k p e s m args below meth c r0 r H locs ls hC hZ hW hR hlo hls)
theorem V_is12 (q : Nat) {a0 a1 a2 a3 a4 a5 a6 a7 a8 a9 a10 a11 b : Option Value} {t : List (Option Value)} {x : Int32} (d : decode cc pc = .ok (.istore 12, 2)) (hn : 12 < nL) (hq : pc + 2 = q) (k : V l G y cc nL ret R mc ms Z post L M cells slots (a0 :: a1 :: a2 :: a3 :: a4 :: a5 :: a6 :: a7 :: a8 :: a9 :: a10 :: a11 :: some (.int x) :: t) q st) : V l G y cc nL ret R mc ms Z post L M cells slots (a0 :: a1 :: a2 :: a3 :: a4 :: a5 :: a6 :: a7 :: a8 :: a9 :: a10 :: a11 :: b :: t) pc (.int x :: st) := by
  subst hq
  intro p e s m args below meth c r0 r H locs ls hC hZ hW hR hlo hls
  exact lv_istore hC.1 hC.2.1 d hls.1 hn rfl (fun ls' h' => k p e s m args below meth c r0 r H locs ls' hC hZ hW hR hlo (gH.set (i := 12) (v := .int x) hls.2 rfl h'))
theorem V_as12 (q : Nat) {a0 a1 a2 a3 a4 a5 a6 a7 a8 a9 a10 a11 b : Option Value} {t : List (Option Value)} {x : Nat} (d : decode cc pc = .ok (.astore 12, 2)) (hn : 12 < nL) (hq : pc + 2 = q) (k : V l G y cc nL ret R mc ms Z post L M cells slots (a0 :: a1 :: a2 :: a3 :: a4 :: a5 :: a6 :: a7 :: a8 :: a9 :: a10 :: a11 :: some (.ref x) :: t) q st) : V l G y cc nL ret R mc ms Z post L M cells slots (a0 :: a1 :: a2 :: a3 :: a4 :: a5 :: a6 :: a7 :: a8 :: a9 :: a10 :: a11 :: b :: t) pc (.ref x :: st) := by
  subst hq
  intro p e s m args below meth c r0 r H locs ls hC hZ hW hR hlo hls
  exact lv_astore hC.1 hC.2.1 d hls.1 hn rfl (fun ls' h' => k p e s m args below meth c r0 r H locs ls' hC hZ hW hR hlo (gH.set (i := 12) (v := .ref x) hls.2 rfl h'))
theorem V_az12 (q : Nat) {a0 a1 a2 a3 a4 a5 a6 a7 a8 a9 a10 a11 b : Option Value} {t : List (Option Value)}  (d : decode cc pc = .ok (.astore 12, 2)) (hn : 12 < nL) (hq : pc + 2 = q) (k : V l G y cc nL ret R mc ms Z post L M cells slots (a0 :: a1 :: a2 :: a3 :: a4 :: a5 :: a6 :: a7 :: a8 :: a9 :: a10 :: a11 :: some (.null) :: t) q st) : V l G y cc nL ret R mc ms Z post L M cells slots (a0 :: a1 :: a2 :: a3 :: a4 :: a5 :: a6 :: a7 :: a8 :: a9 :: a10 :: a11 :: b :: t) pc (.null :: st) := by
  subst hq
  intro p e s m args below meth c r0 r H locs ls hC hZ hW hR hlo hls
  exact lv_astoreN hC.1 hC.2.1 d hls.1 hn rfl (fun ls' h' => k p e s m args below meth c r0 r H locs ls' hC hZ hW hR hlo (gH.set (i := 12) (v := .null) hls.2 rfl h'))
theorem V_ii12 (q : Nat) {a0 a1 a2 a3 a4 a5 a6 a7 a8 a9 a10 a11 : Option Value} {t : List (Option Value)} {x v : Int32} {n : Int} (d : decode cc pc = .ok (.iinc 12 n, 3)) (hn : 12 < nL) (hv : Int32.ofInt n = v) (hq : pc + 3 = q) (k : V l G y cc nL ret R mc ms Z post L M cells slots (a0 :: a1 :: a2 :: a3 :: a4 :: a5 :: a6 :: a7 :: a8 :: a9 :: a10 :: a11 :: some (.int (x + v)) :: t) q st) : V l G y cc nL ret R mc ms Z post L M cells slots (a0 :: a1 :: a2 :: a3 :: a4 :: a5 :: a6 :: a7 :: a8 :: a9 :: a10 :: a11 :: some (.int x) :: t) pc st := by
  subst hq
  subst hv
  intro p e s m args below meth c r0 r H locs ls hC hZ hW hR hlo hls
  obtain ⟨k9, hk9⟩ := List.getElem?_of_mem (gP_mem.mpr ⟨.int x, rfl, rfl⟩ : (12, Value.int x) ∈ gP r (a0 :: a1 :: a2 :: a3 :: a4 :: a5 :: a6 :: a7 :: a8 :: a9 :: a10 :: a11 :: some (.int x) :: t))
  exact lv_iinc hC.1 hC.2.1 d hls.1 hk9 rfl hn rfl (fun ls' h' => k p e s m args below meth c r0 r H locs ls' hC hZ hW hR hlo (gH.set (i := 12) (v := .int (x + Int32.ofInt n)) hls.2 rfl h'))
theorem V_il13 (q : Nat) {a0 a1 a2 a3 a4 a5 a6 a7 a8 a9 a10 a11 a12 : Option Value} {t : List (Option Value)} {x : Int32} (d : decode cc pc = .ok (.iload 13, 2)) (hq : pc + 2 = q) (k : V l G y cc nL ret R mc ms Z post L M cells slots (a0 :: a1 :: a2 :: a3 :: a4 :: a5 :: a6 :: a7 :: a8 :: a9 :: a10 :: a11 :: a12 :: some (.int x) :: t) q (.int x :: st)) : V l G y cc nL ret R mc ms Z post L M cells slots (a0 :: a1 :: a2 :: a3 :: a4 :: a5 :: a6 :: a7 :: a8 :: a9 :: a10 :: a11 :: a12 :: some (.int x) :: t) pc (st) := by
  subst hq
  intro p e s m args below meth c r0 r H locs ls hC hZ hW hR hlo hls
  exact lv_iload hC.1 hC.2.1 d (hls.at (i := 13) rfl) (k p e s m args below meth c r0 r H locs ls hC hZ hW hR hlo hls)
theorem V_al13 (q : Nat) {a0 a1 a2 a3 a4 a5 a6 a7 a8 a9 a10 a11 a12 : Option Value} {t : List (Option Value)} {x : Nat} (d : decode cc pc = .ok (.aload 13, 2)) (hq : pc + 2 = q) (k : V l G y cc nL ret R mc ms Z post L M cells slots (a0 :: a1 :: a2 :: a3 :: a4 :: a5 :: a6 :: a7 :: a8 :: a9 :: a10 :: a11 :: a12 :: some (.ref x) :: t) q (.ref x :: st)) : V l G y cc nL ret R mc ms Z post L M cells slots (a0 :: a1 :: a2 :: a3 :: a4 :: a5 :: a6 :: a7 :: a8 :: a9 :: a10 :: a11 :: a12 :: some (.ref x) :: t) pc (st) := by
  subst hq
  intro p e s m args below meth c r0 r H locs ls hC hZ hW hR hlo hls
  exact lv_aload hC.1 hC.2.1 d (hls.at (i := 13) rfl) (k p e s m args below meth c r0 r H locs ls hC hZ hW hR hlo hls)
theorem V_an13 (q : Nat) {a0 a1 a2 a3 a4 a5 a6 a7 a8 a9 a10 a11 a12 : Option Value} {t : List (Option Value)}  (d : decode cc pc = .ok (.aload 13, 2)) (hq : pc + 2 = q) (k : V l G y cc nL ret R mc ms Z post L M cells slots (a0 :: a1 :: a2 :: a3 :: a4 :: a5 :: a6 :: a7 :: a8 :: a9 :: a10 :: a11 :: a12 :: some (.null) :: t) q (.null :: st)) : V l G y cc nL ret R mc ms Z post L M cells slots (a0 :: a1 :: a2 :: a3 :: a4 :: a5 :: a6 :: a7 :: a8 :: a9 :: a10 :: a11 :: a12 :: some (.null) :: t) pc (st) := by
  subst hq
  intro p e s m args below meth c r0 r H locs ls hC hZ hW hR hlo hls
  exact lv_aloadN hC.1 hC.2.1 d (hls.at (i := 13) rfl) (k p e s m args below meth c r0 r H locs ls hC hZ hW hR hlo hls)
theorem V_is13 (q : Nat) {a0 a1 a2 a3 a4 a5 a6 a7 a8 a9 a10 a11 a12 b : Option Value} {t : List (Option Value)} {x : Int32} (d : decode cc pc = .ok (.istore 13, 2)) (hn : 13 < nL) (hq : pc + 2 = q) (k : V l G y cc nL ret R mc ms Z post L M cells slots (a0 :: a1 :: a2 :: a3 :: a4 :: a5 :: a6 :: a7 :: a8 :: a9 :: a10 :: a11 :: a12 :: some (.int x) :: t) q st) : V l G y cc nL ret R mc ms Z post L M cells slots (a0 :: a1 :: a2 :: a3 :: a4 :: a5 :: a6 :: a7 :: a8 :: a9 :: a10 :: a11 :: a12 :: b :: t) pc (.int x :: st) := by
  subst hq
  intro p e s m args below meth c r0 r H locs ls hC hZ hW hR hlo hls
  exact lv_istore hC.1 hC.2.1 d hls.1 hn rfl (fun ls' h' => k p e s m args below meth c r0 r H locs ls' hC hZ hW hR hlo (gH.set (i := 13) (v := .int x) hls.2 rfl h'))
theorem V_as13 (q : Nat) {a0 a1 a2 a3 a4 a5 a6 a7 a8 a9 a10 a11 a12 b : Option Value} {t : List (Option Value)} {x : Nat} (d : decode cc pc = .ok (.astore 13, 2)) (hn : 13 < nL) (hq : pc + 2 = q) (k : V l G y cc nL ret R mc ms Z post L M cells slots (a0 :: a1 :: a2 :: a3 :: a4 :: a5 :: a6 :: a7 :: a8 :: a9 :: a10 :: a11 :: a12 :: some (.ref x) :: t) q st) : V l G y cc nL ret R mc ms Z post L M cells slots (a0 :: a1 :: a2 :: a3 :: a4 :: a5 :: a6 :: a7 :: a8 :: a9 :: a10 :: a11 :: a12 :: b :: t) pc (.ref x :: st) := by
  subst hq
  intro p e s m args below meth c r0 r H locs ls hC hZ hW hR hlo hls
  exact lv_astore hC.1 hC.2.1 d hls.1 hn rfl (fun ls' h' => k p e s m args below meth c r0 r H locs ls' hC hZ hW hR hlo (gH.set (i := 13) (v := .ref x) hls.2 rfl h'))
theorem V_az13 (q : Nat) {a0 a1 a2 a3 a4 a5 a6 a7 a8 a9 a10 a11 a12 b : Option Value} {t : List (Option Value)}  (d : decode cc pc = .ok (.astore 13, 2)) (hn : 13 < nL) (hq : pc + 2 = q) (k : V l G y cc nL ret R mc ms Z post L M cells slots (a0 :: a1 :: a2 :: a3 :: a4 :: a5 :: a6 :: a7 :: a8 :: a9 :: a10 :: a11 :: a12 :: some (.null) :: t) q st) : V l G y cc nL ret R mc ms Z post L M cells slots (a0 :: a1 :: a2 :: a3 :: a4 :: a5 :: a6 :: a7 :: a8 :: a9 :: a10 :: a11 :: a12 :: b :: t) pc (.null :: st) := by
  subst hq
  intro p e s m args below meth c r0 r H locs ls hC hZ hW hR hlo hls
  exact lv_astoreN hC.1 hC.2.1 d hls.1 hn rfl (fun ls' h' => k p e s m args below meth c r0 r H locs ls' hC hZ hW hR hlo (gH.set (i := 13) (v := .null) hls.2 rfl h'))
theorem V_ii13 (q : Nat) {a0 a1 a2 a3 a4 a5 a6 a7 a8 a9 a10 a11 a12 : Option Value} {t : List (Option Value)} {x v : Int32} {n : Int} (d : decode cc pc = .ok (.iinc 13 n, 3)) (hn : 13 < nL) (hv : Int32.ofInt n = v) (hq : pc + 3 = q) (k : V l G y cc nL ret R mc ms Z post L M cells slots (a0 :: a1 :: a2 :: a3 :: a4 :: a5 :: a6 :: a7 :: a8 :: a9 :: a10 :: a11 :: a12 :: some (.int (x + v)) :: t) q st) : V l G y cc nL ret R mc ms Z post L M cells slots (a0 :: a1 :: a2 :: a3 :: a4 :: a5 :: a6 :: a7 :: a8 :: a9 :: a10 :: a11 :: a12 :: some (.int x) :: t) pc st := by
  subst hq
  subst hv
  intro p e s m args below meth c r0 r H locs ls hC hZ hW hR hlo hls
  obtain ⟨k9, hk9⟩ := List.getElem?_of_mem (gP_mem.mpr ⟨.int x, rfl, rfl⟩ : (13, Value.int x) ∈ gP r (a0 :: a1 :: a2 :: a3 :: a4 :: a5 :: a6 :: a7 :: a8 :: a9 :: a10 :: a11 :: a12 :: some (.int x) :: t))
  exact lv_iinc hC.1 hC.2.1 d hls.1 hk9 rfl hn rfl (fun ls' h' => k p e s m args below meth c r0 r H locs ls' hC hZ hW hR hlo (gH.set (i := 13) (v := .int (x + Int32.ofInt n)) hls.2 rfl h'))
theorem V_il14 (q : Nat) {a0 a1 a2 a3 a4 a5 a6 a7 a8 a9 a10 a11 a12 a13 : Option Value} {t : List (Option Value)} {x : Int32} (d : decode cc pc = .ok (.iload 14, 2)) (hq : pc + 2 = q) (k : V l G y cc nL ret R mc ms Z post L M cells slots (a0 :: a1 :: a2 :: a3 :: a4 :: a5 :: a6 :: a7 :: a8 :: a9 :: a10 :: a11 :: a12 :: a13 :: some (.int x) :: t) q (.int x :: st)) : V l G y cc nL ret R mc ms Z post L M cells slots (a0 :: a1 :: a2 :: a3 :: a4 :: a5 :: a6 :: a7 :: a8 :: a9 :: a10 :: a11 :: a12 :: a13 :: some (.int x) :: t) pc (st) := by
  subst hq
  intro p e s m args below meth c r0 r H locs ls hC hZ hW hR hlo hls
  exact lv_iload hC.1 hC.2.1 d (hls.at (i := 14) rfl) (k p e s m args below meth c r0 r H locs ls hC hZ hW hR hlo hls)
theorem V_al14 (q : Nat) {a0 a1 a2 a3 a4 a5 a6 a7 a8 a9 a10 a11 a12 a13 : Option Value} {t : List (Option Value)} {x : Nat} (d : decode cc pc = .ok (.aload 14, 2)) (hq : pc + 2 = q) (k : V l G y cc nL ret R mc ms Z post L M cells slots (a0 :: a1 :: a2 :: a3 :: a4 :: a5 :: a6 :: a7 :: a8 :: a9 :: a10 :: a11 :: a12 :: a13 :: some (.ref x) :: t) q (.ref x :: st)) : V l G y cc nL ret R mc ms Z post L M cells slots (a0 :: a1 :: a2 :: a3 :: a4 :: a5 :: a6 :: a7 :: a8 :: a9 :: a10 :: a11 :: a12 :: a13 :: some (.ref x) :: t) pc (st) := by
  subst hq
  intro p e s m args below meth c r0 r H locs ls hC hZ hW hR hlo hls
  exact lv_aload hC.1 hC.2.1 d (hls.at (i := 14) rfl) (k p e s m args below meth c r0 r H locs ls hC hZ hW hR hlo hls)
theorem V_an14 (q : Nat) {a0 a1 a2 a3 a4 a5 a6 a7 a8 a9 a10 a11 a12 a13 : Option Value} {t : List (Option Value)}  (d : decode cc pc = .ok (.aload 14, 2)) (hq : pc + 2 = q) (k : V l G y cc nL ret R mc ms Z post L M cells slots (a0 :: a1 :: a2 :: a3 :: a4 :: a5 :: a6 :: a7 :: a8 :: a9 :: a10 :: a11 :: a12 :: a13 :: some (.null) :: t) q (.null :: st)) : V l G y cc nL ret R mc ms Z post L M cells slots (a0 :: a1 :: a2 :: a3 :: a4 :: a5 :: a6 :: a7 :: a8 :: a9 :: a10 :: a11 :: a12 :: a13 :: some (.null) :: t) pc (st) := by
  subst hq
  intro p e s m args below meth c r0 r H locs ls hC hZ hW hR hlo hls
  exact lv_aloadN hC.1 hC.2.1 d (hls.at (i := 14) rfl) (k p e s m args below meth c r0 r H locs ls hC hZ hW hR hlo hls)
theorem V_is14 (q : Nat) {a0 a1 a2 a3 a4 a5 a6 a7 a8 a9 a10 a11 a12 a13 b : Option Value} {t : List (Option Value)} {x : Int32} (d : decode cc pc = .ok (.istore 14, 2)) (hn : 14 < nL) (hq : pc + 2 = q) (k : V l G y cc nL ret R mc ms Z post L M cells slots (a0 :: a1 :: a2 :: a3 :: a4 :: a5 :: a6 :: a7 :: a8 :: a9 :: a10 :: a11 :: a12 :: a13 :: some (.int x) :: t) q st) : V l G y cc nL ret R mc ms Z post L M cells slots (a0 :: a1 :: a2 :: a3 :: a4 :: a5 :: a6 :: a7 :: a8 :: a9 :: a10 :: a11 :: a12 :: a13 :: b :: t) pc (.int x :: st) := by
  subst hq
  intro p e s m args below meth c r0 r H locs ls hC hZ hW hR hlo hls
  exact lv_istore hC.1 hC.2.1 d hls.1 hn rfl (fun ls' h' => k p e s m args below meth c r0 r H locs ls' hC hZ hW hR hlo (gH.set (i := 14) (v := .int x) hls.2 rfl h'))
theorem V_as14 (q : Nat) {a0 a1 a2 a3 a4 a5 a6 a7 a8 a9 a10 a11 a12 a13 b : Option Value} {t : List (Option Value)} {x : Nat} (d : decode cc pc = .ok (.astore 14, 2)) (hn : 14 < nL) (hq : pc + 2 = q) (k : V l G y cc nL ret R mc ms Z post L M cells slots (a0 :: a1 :: a2 :: a3 :: a4 :: a5 :: a6 :: a7 :: a8 :: a9 :: a10 :: a11 :: a12 :: a13 :: some (.ref x) :: t) q st) : V l G y cc nL ret R mc ms Z post L M cells slots (a0 :: a1 :: a2 :: a3 :: a4 :: a5 :: a6 :: a7 :: a8 :: a9 :: a10 :: a11 :: a12 :: a13 :: b :: t) pc (.ref x :: st) := by
  subst hq
  intro p e s m args below meth c r0 r H locs ls hC hZ hW hR hlo hls
  exact lv_astore hC.1 hC.2.1 d hls.1 hn rfl (fun ls' h' => k p e s m args below meth c r0 r H locs ls' hC hZ hW hR hlo (gH.set (i := 14) (v := .ref x) hls.2 rfl h'))
theorem V_az14 (q : Nat) {a0 a1 a2 a3 a4 a5 a6 a7 a8 a9 a10 a11 a12 a13 b : Option Value} {t : List (Option Value)}  (d : decode cc pc = .ok (.astore 14, 2)) (hn : 14 < nL) (hq : pc + 2 = q) (k : V l G y cc nL ret R mc ms Z post L M cells slots (a0 :: a1 :: a2 :: a3 :: a4 :: a5 :: a6 :: a7 :: a8 :: a9 :: a10 :: a11 :: a12 :: a13 :: some (.null) :: t) q st) : V l G y cc nL ret R mc ms Z post L M cells slots (a0 :: a1 :: a2 :: a3 :: a4 :: a5 :: a6 :: a7 :: a8 :: a9 :: a10 :: a11 :: a12 :: a13 :: b :: t) pc (.null :: st) := by
  subst hq
  intro p e s m args below meth c r0 r H locs ls hC hZ hW hR hlo hls
  exact lv_astoreN hC.1 hC.2.1 d hls.1 hn rfl (fun ls' h' => k p e s m args below meth c r0 r H locs ls' hC hZ hW hR hlo (gH.set (i := 14) (v := .null) hls.2 rfl h'))
theorem V_ii14 (q : Nat) {a0 a1 a2 a3 a4 a5 a6 a7 a8 a9 a10 a11 a12 a13 : Option Value} {t : List (Option Value)} {x v : Int32} {n : Int} (d : decode cc pc = .ok (.iinc 14 n, 3)) (hn : 14 < nL) (hv : Int32.ofInt n = v) (hq : pc + 3 = q) (k : V l G y cc nL ret R mc ms Z post L M cells slots (a0 :: a1 :: a2 :: a3 :: a4 :: a5 :: a6 :: a7 :: a8 :: a9 :: a10 :: a11 :: a12 :: a13 :: some (.int (x + v)) :: t) q st) : V l G y cc nL ret R mc ms Z post L M cells slots (a0 :: a1 :: a2 :: a3 :: a4 :: a5 :: a6 :: a7 :: a8 :: a9 :: a10 :: a11 :: a12 :: a13 :: some (.int x) :: t) pc st := by
  subst hq
  subst hv
  intro p e s m args below meth c r0 r H locs ls hC hZ hW hR hlo hls
  obtain ⟨k9, hk9⟩ := List.getElem?_of_mem (gP_mem.mpr ⟨.int x, rfl, rfl⟩ : (14, Value.int x) ∈ gP r (a0 :: a1 :: a2 :: a3 :: a4 :: a5 :: a6 :: a7 :: a8 :: a9 :: a10 :: a11 :: a12 :: a13 :: some (.int x) :: t))
  exact lv_iinc hC.1 hC.2.1 d hls.1 hk9 rfl hn rfl (fun ls' h' => k p e s m args below meth c r0 r H locs ls' hC hZ hW hR hlo (gH.set (i := 14) (v := .int (x + Int32.ofInt n)) hls.2 rfl h'))
theorem V_il15 (q : Nat) {a0 a1 a2 a3 a4 a5 a6 a7 a8 a9 a10 a11 a12 a13 a14 : Option Value} {t : List (Option Value)} {x : Int32} (d : decode cc pc = .ok (.iload 15, 2)) (hq : pc + 2 = q) (k : V l G y cc nL ret R mc ms Z post L M cells slots (a0 :: a1 :: a2 :: a3 :: a4 :: a5 :: a6 :: a7 :: a8 :: a9 :: a10 :: a11 :: a12 :: a13 :: a14 :: some (.int x) :: t) q (.int x :: st)) : V l G y cc nL ret R mc ms Z post L M cells slots (a0 :: a1 :: a2 :: a3 :: a4 :: a5 :: a6 :: a7 :: a8 :: a9 :: a10 :: a11 :: a12 :: a13 :: a14 :: some (.int x) :: t) pc (st) := by
  subst hq
  intro p e s m args below meth c r0 r H locs ls hC hZ hW hR hlo hls
  exact lv_iload hC.1 hC.2.1 d (hls.at (i := 15) rfl) (k p e s m args below meth c r0 r H locs ls hC hZ hW hR hlo hls)
theorem V_al15 (q : Nat) {a0 a1 a2 a3 a4 a5 a6 a7 a8 a9 a10 a11 a12 a13 a14 : Option Value} {t : List (Option Value)} {x : Nat} (d : decode cc pc = .ok (.aload 15, 2)) (hq : pc + 2 = q) (k : V l G y cc nL ret R mc ms Z post L M cells slots (a0 :: a1 :: a2 :: a3 :: a4 :: a5 :: a6 :: a7 :: a8 :: a9 :: a10 :: a11 :: a12 :: a13 :: a14 :: some (.ref x) :: t) q (.ref x :: st)) : V l G y cc nL ret R mc ms Z post L M cells slots (a0 :: a1 :: a2 :: a3 :: a4 :: a5 :: a6 :: a7 :: a8 :: a9 :: a10 :: a11 :: a12 :: a13 :: a14 :: some (.ref x) :: t) pc (st) := by
  subst hq
  intro p e s m args below meth c r0 r H locs ls hC hZ hW hR hlo hls
  exact lv_aload hC.1 hC.2.1 d (hls.at (i := 15) rfl) (k p e s m args below meth c r0 r H locs ls hC hZ hW hR hlo hls)
theorem V_an15 (q : Nat) {a0 a1 a2 a3 a4 a5 a6 a7 a8 a9 a10 a11 a12 a13 a14 : Option Value} {t : List (Option Value)}  (d : decode cc pc = .ok (.aload 15, 2)) (hq : pc + 2 = q) (k : V l G y cc nL ret R mc ms Z post L M cells slots (a0 :: a1 :: a2 :: a3 :: a4 :: a5 :: a6 :: a7 :: a8 :: a9 :: a10 :: a11 :: a12 :: a13 :: a14 :: some (.null) :: t) q (.null :: st)) : V l G y cc nL ret R mc ms Z post L M cells slots (a0 :: a1 :: a2 :: a3 :: a4 :: a5 :: a6 :: a7 :: a8 :: a9 :: a10 :: a11 :: a12 :: a13 :: a14 :: some (.null) :: t) pc (st) := by
  subst hq
  intro p e s m args below meth c r0 r H locs ls hC hZ hW hR hlo hls
  exact lv_aloadN hC.1 hC.2.1 d (hls.at (i := 15) rfl) (k p e s m args below meth c r0 r H locs ls hC hZ hW hR hlo hls)
theorem V_is15 (q : Nat) {a0 a1 a2 a3 a4 a5 a6 a7 a8 a9 a10 a11 a12 a13 a14 b : Option Value} {t : List (Option Value)} {x : Int32} (d : decode cc pc = .ok (.istore 15, 2)) (hn : 15 < nL) (hq : pc + 2 = q) (k : V l G y cc nL ret R mc ms Z post L M cells slots (a0 :: a1 :: a2 :: a3 :: a4 :: a5 :: a6 :: a7 :: a8 :: a9 :: a10 :: a11 :: a12 :: a13 :: a14 :: some (.int x) :: t) q st) : V l G y cc nL ret R mc ms Z post L M cells slots (a0 :: a1 :: a2 :: a3 :: a4 :: a5 :: a6 :: a7 :: a8 :: a9 :: a10 :: a11 :: a12 :: a13 :: a14 :: b :: t) pc (.int x :: st) := by
  subst hq
  intro p e s m args below meth c r0 r H locs ls hC hZ hW hR hlo hls
  exact lv_istore hC.1 hC.2.1 d hls.1 hn rfl (fun ls' h' => k p e s m args below meth c r0 r H locs ls' hC hZ hW hR hlo (gH.set (i := 15) (v := .int x) hls.2 rfl h'))
theorem V_as15 (q : Nat) {a0 a1 a2 a3 a4 a5 a6 a7 a8 a9 a10 a11 a12 a13 a14 b : Option Value} {t : List (Option Value)} {x : Nat} (d : decode cc pc = .ok (.astore 15, 2)) (hn : 15 < nL) (hq : pc + 2 = q) (k : V l G y cc nL ret R mc ms Z post L M cells slots (a0 :: a1 :: a2 :: a3 :: a4 :: a5 :: a6 :: a7 :: a8 :: a9 :: a10 :: a11 :: a12 :: a13 :: a14 :: some (.ref x) :: t) q st) : V l G y cc nL ret R mc ms Z post L M cells slots (a0 :: a1 :: a2 :: a3 :: a4 :: a5 :: a6 :: a7 :: a8 :: a9 :: a10 :: a11 :: a12 :: a13 :: a14 :: b :: t) pc (.ref x :: st) := by
  subst hq
  intro p e s m args below meth c r0 r H locs ls hC hZ hW hR hlo hls
  exact lv_astore hC.1 hC.2.1 d hls.1 hn rfl (fun ls' h' => k p e s m args below meth c r0 r H locs ls' hC hZ hW hR hlo (gH.set (i := 15) (v := .ref x) hls.2 rfl h'))
theorem V_az15 (q : Nat) {a0 a1 a2 a3 a4 a5 a6 a7 a8 a9 a10 a11 a12 a13 a14 b : Option Value} {t : List (Option Value)}  (d : decode cc pc = .ok (.astore 15, 2)) (hn : 15 < nL) (hq : pc + 2 = q) (k : V l G y cc nL ret R mc ms Z post L M cells slots (a0 :: a1 :: a2 :: a3 :: a4 :: a5 :: a6 :: a7 :: a8 :: a9 :: a10 :: a11 :: a12 :: a13 :: a14 :: some (.null) :: t) q st) : V l G y cc nL ret R mc ms Z post L M cells slots (a0 :: a1 :: a2 :: a3 :: a4 :: a5 :: a6 :: a7 :: a8 :: a9 :: a10 :: a11 :: a12 :: a13 :: a14 :: b :: t) pc (.null :: st) := by
  subst hq
  intro p e s m args below meth c r0 r H locs ls hC hZ hW hR hlo hls
  exact lv_astoreN hC.1 hC.2.1 d hls.1 hn rfl (fun ls' h' => k p e s m args below meth c r0 r H locs ls' hC hZ hW hR hlo (gH.set (i := 15) (v := .null) hls.2 rfl h'))
theorem V_ii15 (q : Nat) {a0 a1 a2 a3 a4 a5 a6 a7 a8 a9 a10 a11 a12 a13 a14 : Option Value} {t : List (Option Value)} {x v : Int32} {n : Int} (d : decode cc pc = .ok (.iinc 15 n, 3)) (hn : 15 < nL) (hv : Int32.ofInt n = v) (hq : pc + 3 = q) (k : V l G y cc nL ret R mc ms Z post L M cells slots (a0 :: a1 :: a2 :: a3 :: a4 :: a5 :: a6 :: a7 :: a8 :: a9 :: a10 :: a11 :: a12 :: a13 :: a14 :: some (.int (x + v)) :: t) q st) : V l G y cc nL ret R mc ms Z post L M cells slots (a0 :: a1 :: a2 :: a3 :: a4 :: a5 :: a6 :: a7 :: a8 :: a9 :: a10 :: a11 :: a12 :: a13 :: a14 :: some (.int x) :: t) pc st := by
  subst hq
  subst hv
  intro p e s m args below meth c r0 r H locs ls hC hZ hW hR hlo hls
  obtain ⟨k9, hk9⟩ := List.getElem?_of_mem (gP_mem.mpr ⟨.int x, rfl, rfl⟩ : (15, Value.int x) ∈ gP r (a0 :: a1 :: a2 :: a3 :: a4 :: a5 :: a6 :: a7 :: a8 :: a9 :: a10 :: a11 :: a12 :: a13 :: a14 :: some (.int x) :: t))
  exact lv_iinc hC.1 hC.2.1 d hls.1 hk9 rfl hn rfl (fun ls' h' => k p e s m args below meth c r0 r H locs ls' hC hZ hW hR hlo (gH.set (i := 15) (v := .int (x + Int32.ofInt n)) hls.2 rfl h'))
theorem V_il16 (q : Nat) {a0 a1 a2 a3 a4 a5 a6 a7 a8 a9 a10 a11 a12 a13 a14 a15 : Option Value} {t : List (Option Value)} {x : Int32} (d : decode cc pc = .ok (.iload 16, 2)) (hq : pc + 2 = q) (k : V l G y cc nL ret R mc ms Z post L M cells slots (a0 :: a1 :: a2 :: a3 :: a4 :: a5 :: a6 :: a7 :: a8 :: a9 :: a10 :: a11 :: a12 :: a13 :: a14 :: a15 :: some (.int x) :: t) q (.int x :: st)) : V l G y cc nL ret R mc ms Z post L M cells slots (a0 :: a1 :: a2 :: a3 :: a4 :: a5 :: a6 :: a7 :: a8 :: a9 :: a10 :: a11 :: a12 :: a13 :: a14 :: a15 :: some (.int x) :: t) pc (st) := by
  subst hq
  intro p e s m args below meth c r0 r H locs ls hC hZ hW hR hlo hls
  exact lv_iload hC.1 hC.2.1 d (hls.at (i := 16) rfl) (k p e s m args below meth c r0 r H locs ls hC hZ hW hR hlo hls)
theorem V_al16 (q : Nat) {a0 a1 a2 a3 a4 a5 a6 a7 a8 a9 a10 a11 a12 a13 a14 a15 : Option Value} {t : List (Option Value)} {x : Nat} (d : decode cc pc = .ok (.aload 16, 2)) (hq : pc + 2 = q) (k : V l G y cc nL ret R mc ms Z post L M cells slots (a0 :: a1 :: a2 :: a3 :: a4 :: a5 :: a6 :: a7 :: a8 :: a9 :: a10 :: a11 :: a12 :: a13 :: a14 :: a15 :: some (.ref x) :: t) q (.ref x :: st)) : V l G y cc nL ret R mc ms Z post L M cells slots (a0 :: a1 :: a2 :: a3 :: a4 :: a5 :: a6 :: a7 :: a8 :: a9 :: a10 :: a11 :: a12 :: a13 :: a14 :: a15 :: some (.ref x) :: t) pc (st) := by
  subst hq
  intro p e s m args below meth c r0 r H locs ls hC hZ hW hR hlo hls
  exact lv_aload hC.1 hC.2.1 d (hls.at (i := 16) rfl) (k p e s m args below meth c r0 r H locs ls hC hZ hW hR hlo hls)
theorem V_an16 (q : Nat) {a0 a1 a2 a3 a4 a5 a6 a7 a8 a9 a10 a11 a12 a13 a14 a15 : Option Value} {t : List (Option Value)}  (d : decode cc pc = .ok (.aload 16, 2)) (hq : pc + 2 = q) (k : V l G y cc nL ret R mc ms Z post L M cells slots (a0 :: a1 :: a2 :: a3 :: a4 :: a5 :: a6 :: a7 :: a8 :: a9 :: a10 :: a11 :: a12 :: a13 :: a14 :: a15 :: some (.null) :: t) q (.null :: st)) : V l G y cc nL ret R mc ms Z post L M cells slots (a0 :: a1 :: a2 :: a3 :: a4 :: a5 :: a6 :: a7 :: a8 :: a9 :: a10 :: a11 :: a12 :: a13 :: a14 :: a15 :: some (.null) :: t) pc (st) := by
  subst hq
  intro p e s m args below meth c r0 r H locs ls hC hZ hW hR hlo hls
  exact lv_aloadN hC.1 hC.2.1 d (hls.at (i := 16) rfl) (k p e s m args below meth c r0 r H locs ls hC hZ hW hR hlo hls)
theorem V_is16 (q : Nat) {a0 a1 a2 a3 a4 a5 a6 a7 a8 a9 a10 a11 a12 a13 a14 a15 b : Option Value} {t : List (Option Value)} {x : Int32} (d : decode cc pc = .ok (.istore 16, 2)) (hn : 16 < nL) (hq : pc + 2 = q) (k : V l G y cc nL ret R mc ms Z post L M cells slots (a0 :: a1 :: a2 :: a3 :: a4 :: a5 :: a6 :: a7 :: a8 :: a9 :: a10 :: a11 :: a12 :: a13 :: a14 :: a15 :: some (.int x) :: t) q st) : V l G y cc nL ret R mc ms Z post L M cells slots (a0 :: a1 :: a2 :: a3 :: a4 :: a5 :: a6 :: a7 :: a8 :: a9 :: a10 :: a11 :: a12 :: a13 :: a14 :: a15 :: b :: t) pc (.int x :: st) := by
  subst hq
  intro p e s m args below meth c r0 r H locs ls hC hZ hW hR hlo hls
  exact lv_istore hC.1 hC.2.1 d hls.1 hn rfl (fun ls' h' => k p e s m args below meth c r0 r H locs ls' hC hZ hW hR hlo (gH.set (i := 16) (v := .int x) hls.2 rfl h'))
theorem V_as16 (q : Nat) {a0 a1 a2 a3 a4 a5 a6 a7 a8 a9 a10 a11 a12 a13 a14 a15 b : Option Value} {t : List (Option Value)} {x : Nat} (d : decode cc pc = .ok (.astore 16, 2)) (hn : 16 < nL) (hq : pc + 2 = q) (k : V l G y cc nL ret R mc ms Z post L M cells slots (a0 :: a1 :: a2 :: a3 :: a4 :: a5 :: a6 :: a7 :: a8 :: a9 :: a10 :: a11 :: a12 :: a13 :: a14 :: a15 :: some (.ref x) :: t) q st) : V l G y cc nL ret R mc ms Z post L M cells slots (a0 :: a1 :: a2 :: a3 :: a4 :: a5 :: a6 :: a7 :: a8 :: a9 :: a10 :: a11 :: a12 :: a13 :: a14 :: a15 :: b :: t) pc (.ref x :: st) := by
  subst hq
  intro p e s m args below meth c r0 r H locs ls hC hZ hW hR hlo hls
  exact lv_astore hC.1 hC.2.1 d hls.1 hn rfl (fun ls' h' => k p e s m args below meth c r0 r H locs ls' hC hZ hW hR hlo (gH.set (i := 16) (v := .ref x) hls.2 rfl h'))
theorem V_az16 (q : Nat) {a0 a1 a2 a3 a4 a5 a6 a7 a8 a9 a10 a11 a12 a13 a14 a15 b : Option Value} {t : List (Option Value)}  (d : decode cc pc = .ok (.astore 16, 2)) (hn : 16 < nL) (hq : pc + 2 = q) (k : V l G y cc nL ret R mc ms Z post L M cells slots (a0 :: a1 :: a2 :: a3 :: a4 :: a5 :: a6 :: a7 :: a8 :: a9 :: a10 :: a11 :: a12 :: a13 :: a14 :: a15 :: some (.null) :: t) q st) : V l G y cc nL ret R mc ms Z post L M cells slots (a0 :: a1 :: a2 :: a3 :: a4 :: a5 :: a6 :: a7 :: a8 :: a9 :: a10 :: a11 :: a12 :: a13 :: a14 :: a15 :: b :: t) pc (.null :: st) := by
  subst hq
  intro p e s m args below meth c r0 r H locs ls hC hZ hW hR hlo hls
  exact lv_astoreN hC.1 hC.2.1 d hls.1 hn rfl (fun ls' h' => k p e s m args below meth c r0 r H locs ls' hC hZ hW hR hlo (gH.set (i := 16) (v := .null) hls.2 rfl h'))
theorem V_ii16 (q : Nat) {a0 a1 a2 a3 a4 a5 a6 a7 a8 a9 a10 a11 a12 a13 a14 a15 : Option Value} {t : List (Option Value)} {x v : Int32} {n : Int} (d : decode cc pc = .ok (.iinc 16 n, 3)) (hn : 16 < nL) (hv : Int32.ofInt n = v) (hq : pc + 3 = q) (k : V l G y cc nL ret R mc ms Z post L M cells slots (a0 :: a1 :: a2 :: a3 :: a4 :: a5 :: a6 :: a7 :: a8 :: a9 :: a10 :: a11 :: a12 :: a13 :: a14 :: a15 :: some (.int (x + v)) :: t) q st) : V l G y cc nL ret R mc ms Z post L M cells slots (a0 :: a1 :: a2 :: a3 :: a4 :: a5 :: a6 :: a7 :: a8 :: a9 :: a10 :: a11 :: a12 :: a13 :: a14 :: a15 :: some (.int x) :: t) pc st := by
  subst hq
  subst hv
  intro p e s m args below meth c r0 r H locs ls hC hZ hW hR hlo hls
  obtain ⟨k9, hk9⟩ := List.getElem?_of_mem (gP_mem.mpr ⟨.int x, rfl, rfl⟩ : (16, Value.int x) ∈ gP r (a0 :: a1 :: a2 :: a3 :: a4 :: a5 :: a6 :: a7 :: a8 :: a9 :: a10 :: a11 :: a12 :: a13 :: a14 :: a15 :: some (.int x) :: t))
  exact lv_iinc hC.1 hC.2.1 d hls.1 hk9 rfl hn rfl (fun ls' h' => k p e s m args below meth c r0 r H locs ls' hC hZ hW hR hlo (gH.set (i := 16) (v := .int (x + Int32.ofInt n)) hls.2 rfl h'))
theorem V_il17 (q : Nat) {a0 a1 a2 a3 a4 a5 a6 a7 a8 a9 a10 a11 a12 a13 a14 a15 a16 : Option Value} {t : List (Option Value)} {x : Int32} (d : decode cc pc = .ok (.iload 17, 2)) (hq : pc + 2 = q) (k : V l G y cc nL ret R mc ms Z post L M cells slots (a0 :: a1 :: a2 :: a3 :: a4 :: a5 :: a6 :: a7 :: a8 :: a9 :: a10 :: a11 :: a12 :: a13 :: a14 :: a15 :: a16 :: some (.int x) :: t) q (.int x :: st)) : V l G y cc nL ret R mc ms Z post L M cells slots (a0 :: a1 :: a2 :: a3 :: a4 :: a5 :: a6 :: a7 :: a8 :: a9 :: a10 :: a11 :: a12 :: a13 :: a14 :: a15 :: a16 :: some (.int x) :: t) pc (st) := by
  subst hq
  intro p e s m args below meth c r0 r H locs ls hC hZ hW hR hlo hls
  exact lv_iload hC.1 hC.2.1 d (hls.at (i := 17) rfl) (k p e s m args below meth c r0 r H locs ls hC hZ hW hR hlo hls)
theorem V_al17 (q : Nat) {a0 a1 a2 a3 a4 a5 a6 a7 a8 a9 a10 a11 a12 a13 a14 a15 a16 : Option Value} {t : List (Option Value)} {x : Nat} (d : decode cc pc = .ok (.aload 17, 2)) (hq : pc + 2 = q) (k : V l G y cc nL ret R mc ms Z post L M cells slots (a0 :: a1 :: a2 :: a3 :: a4 :: a5 :: a6 :: a7 :: a8 :: a9 :: a10 :: a11 :: a12 :: a13 :: a14 :: a15 :: a16 :: some (.ref x) :: t) q (.ref x :: st)) : V l G y cc nL ret R mc ms Z post L M cells slots (a0 :: a1 :: a2 :: a3 :: a4 :: a5 :: a6 :: a7 :: a8 :: a9 :: a10 :: a11 :: a12 :: a13 :: a14 :: a15 :: a16 :: some (.ref x) :: t) pc (st) := by
  subst hq
  intro p e s m args below meth c r0 r H locs ls hC hZ hW hR hlo hls
  exact lv_aload hC.1 hC.2.1 d (hls.at (i := 17) rfl) (k p e s m args below meth c r0 r H locs ls hC hZ hW hR hlo hls)
theorem V_an17 (q : Nat) {a0 a1 a2 a3 a4 a5 a6 a7 a8 a9 a10 a11 a12 a13 a14 a15 a16 : Option Value} {t : List (Option Value)}  (d : decode cc pc = .ok (.aload 17, 2)) (hq : pc + 2 = q) (k : V l G y cc nL ret R mc ms Z post L M cells slots (a0 :: a1 :: a2 :: a3 :: a4 :: a5 :: a6 :: a7 :: a8 :: a9 :: a10 :: a11 :: a12 :: a13 :: a14 :: a15 :: a16 :: some (.null) :: t) q (.null :: st)) : V l G y cc nL ret R mc ms Z post L M cells slots (a0 :: a1 :: a2 :: a3 :: a4 :: a5 :: a6 :: a7 :: a8 :: a9 :: a10 :: a11 :: a12 :: a13 :: a14 :: a15 :: a16 :: some (.null) :: t) pc (st) := by
  subst hq
  intro p e s m args below meth c r0 r H locs ls hC hZ hW hR hlo hls
  exact lv_aloadN hC.1 hC.2.1 d (hls.at (i := 17) rfl) (k p e s m args below meth c r0 r H locs ls hC hZ hW hR hlo hls)
theorem V_is17 (q : Nat) {a0 a1 a2 a3 a4 a5 a6 a7 a8 a9 a10 a11 a12 a13 a14 a15 a16 b : Option Value} {t : List (Option Value)} {x : Int32} (d : decode cc pc = .ok (.istore 17, 2)) (hn : 17 < nL) (hq : pc + 2 = q) (k : V l G y cc nL ret R mc ms Z post L M cells slots (a0 :: a1 :: a2 :: a3 :: a4 :: a5 :: a6 :: a7 :: a8 :: a9 :: a10 :: a11 :: a12 :: a13 :: a14 :: a15 :: a16 :: some (.int x) :: t) q st) : V l G y cc nL ret R mc ms Z post L M cells slots (a0 :: a1 :: a2 :: a3 :: a4 :: a5 :: a6 :: a7 :: a8 :: a9 :: a10 :: a11 :: a12 :: a13 :: a14 :: a15 :: a16 :: b :: t) pc (.int x :: st) := by
  subst hq
  intro p e s m args below meth c r0 r H locs ls hC hZ hW hR hlo hls
  exact lv_istore hC.1 hC.2.1 d hls.1 hn rfl (fun ls' h' => k p e s m args below meth c r0 r H locs ls' hC hZ hW hR hlo (gH.set (i := 17) (v := .int x) hls.2 rfl h'))
theorem V_as17 (q : Nat) {a0 a1 a2 a3 a4 a5 a6 a7 a8 a9 a10 a11 a12 a13 a14 a15 a16 b : Option Value} {t : List (Option Value)} {x : Nat} (d : decode cc pc = .ok (.astore 17, 2)) (hn : 17 < nL) (hq : pc + 2 = q) (k : V l G y cc nL ret R mc ms Z post L M cells slots (a0 :: a1 :: a2 :: a3 :: a4 :: a5 :: a6 :: a7 :: a8 :: a9 :: a10 :: a11 :: a12 :: a13 :: a14 :: a15 :: a16 :: some (.ref x) :: t) q st) : V l G y cc nL ret R mc ms Z post L M cells slots (a0 :: a1 :: a2 :: a3 :: a4 :: a5 :: a6 :: a7 :: a8 :: a9 :: a10 :: a11 :: a12 :: a13 :: a14 :: a15 :: a16 :: b :: t) pc (.ref x :: st) := by
  subst hq
  intro p e s m args below meth c r0 r H locs ls hC hZ hW hR hlo hls
  exact lv_astore hC.1 hC.2.1 d hls.1 hn rfl (fun ls' h' => k p e s m args below meth c r0 r H locs ls' hC hZ hW hR hlo (gH.set (i := 17) (v := .ref x) hls.2 rfl h'))
theorem V_az17 (q : Nat) {a0 a1 a2 a3 a4 a5 a6 a7 a8 a9 a10 a11 a12 a13 a14 a15 a16 b : Option Value} {t : List (Option Value)}  (d : decode cc pc = .ok (.astore 17, 2)) (hn : 17 < nL) (hq : pc + 2 = q) (k : V l G y cc nL ret R mc ms Z post L M cells slots (a0 :: a1 :: a2 :: a3 :: a4 :: a5 :: a6 :: a7 :: a8 :: a9 :: a10 :: a11 :: a12 :: a13 :: a14 :: a15 :: a16 :: some (.null) :: t) q st) : V l G y cc nL ret R mc ms Z post L M cells slots (a0 :: a1 :: a2 :: a3 :: a4 :: a5 :: a6 :: a7 :: a8 :: a9 :: a10 :: a11 :: a12 :: a13 :: a14 :: a15 :: a16 :: b :: t) pc (.null :: st) := by
  subst hq
  intro p e s m args below meth c r0 r H locs ls hC hZ hW hR hlo hls
  exact lv_astoreN hC.1 hC.2.1 d hls.1 hn rfl (fun ls' h' => k p e s m args below meth c r0 r H locs ls' hC hZ hW hR hlo (gH.set (i := 17) (v := .null) hls.2 rfl h'))
theorem V_ii17 (q : Nat) {a0 a1 a2 a3 a4 a5 a6 a7 a8 a9 a10 a11 a12 a13 a14 a15 a16 : Option Value} {t : List (Option Value)} {x v : Int32} {n : Int} (d : decode cc pc = .ok (.iinc 17 n, 3)) (hn : 17 < nL) (hv : Int32.ofInt n = v) (hq : pc + 3 = q) (k : V l G y cc nL ret R mc ms Z post L M cells slots (a0 :: a1 :: a2 :: a3 :: a4 :: a5 :: a6 :: a7 :: a8 :: a9 :: a10 :: a11 :: a12 :: a13 :: a14 :: a15 :: a16 :: some (.int (x + v)) :: t) q st) : V l G y cc nL ret R mc ms Z post L M cells slots (a0 :: a1 :: a2 :: a3 :: a4 :: a5 :: a6 :: a7 :: a8 :: a9 :: a10 :: a11 :: a12 :: a13 :: a14 :: a15 :: a16 :: some (.int x) :: t) pc st := by
  subst hq
  subst hv
  intro p e s m args below meth c r0 r H locs ls hC hZ hW hR hlo hls
  obtain ⟨k9, hk9⟩ := List.getElem?_of_mem (gP_mem.mpr ⟨.int x, rfl, rfl⟩ : (17, Value.int x) ∈ gP r (a0 :: a1 :: a2 :: a3 :: a4 :: a5 :: a6 :: a7 :: a8 :: a9 :: a10 :: a11 :: a12 :: a13 :: a14 :: a15 :: a16 :: some (.int x) :: t))
  exact lv_iinc hC.1 hC.2.1 d hls.1 hk9 rfl hn rfl (fun ls' h' => k p e s m args below meth c r0 r H locs ls' hC hZ hW hR hlo (gH.set (i := 17) (v := .int (x + Int32.ofInt n)) hls.2 rfl h'))
theorem V_il18 (q : Nat) {a0 a1 a2 a3 a4 a5 a6 a7 a8 a9 a10 a11 a12 a13 a14 a15 a16 a17 : Option Value} {t : List (Option Value)} {x : Int32} (d : decode cc pc = .ok (.iload 18, 2)) (hq : pc + 2 = q) (k : V l G y cc nL ret R mc ms Z post L M cells slots (a0 :: a1 :: a2 :: a3 :: a4 :: a5 :: a6 :: a7 :: a8 :: a9 :: a10 :: a11 :: a12 :: a13 :: a14 :: a15 :: a16 :: a17 :: some (.int x) :: t) q (.int x :: st)) : V l G y cc nL ret R mc ms Z post L M cells slots (a0 :: a1 :: a2 :: a3 :: a4 :: a5 :: a6 :: a7 :: a8 :: a9 :: a10 :: a11 :: a12 :: a13 :: a14 :: a15 :: a16 :: a17 :: some (.int x) :: t) pc (st) := by
  subst hq
  intro p e s m args below meth c r0 r H locs ls hC hZ hW hR hlo hls
  exact lv_iload hC.1 hC.2.1 d (hls.at (i := 18) rfl) (k p e s m args below meth c r0 r H locs ls hC hZ hW hR hlo hls)
theorem V_al18 (q : Nat) {a0 a1 a2 a3 a4 a5 a6 a7 a8 a9 a10 a11 a12 a13 a14 a15 a16 a17 : Option Value} {t : List (Option Value)} {x : Nat} (d : decode cc pc = .ok (.aload 18, 2)) (hq : pc + 2 = q) (k : V l G y cc nL ret R mc ms Z post L M cells slots (a0 :: a1 :: a2 :: a3 :: a4 :: a5 :: a6 :: a7 :: a8 :: a9 :: a10 :: a11 :: a12 :: a13 :: a14 :: a15 :: a16 :: a17 :: some (.ref x) :: t) q (.ref x :: st)) : V l G y cc nL ret R mc ms Z post L M cells slots (a0 :: a1 :: a2 :: a3 :: a4 :: a5 :: a6 :: a7 :: a8 :: a9 :: a10 :: a11 :: a12 :: a13 :: a14 :: a15 :: a16 :: a17 :: some (.ref x) :: t) pc (st) := by
  subst hq
  intro p e s m args below meth c r0 r H locs ls hC hZ hW hR hlo hls
  exact lv_aload hC.1 hC.2.1 d (hls.at (i := 18) rfl) (k p e s m args below meth c r0 r H locs ls hC hZ hW hR hlo hls)
theorem V_an18 (q : Nat) {a0 a1 a2 a3 a4 a5 a6 a7 a8 a9 a10 a11 a12 a13 a14 a15 a16 a17 : Option Value} {t : List (Option Value)}  (d : decode cc pc = .ok (.aload 18, 2)) (hq : pc + 2 = q) (k : V l G y cc nL ret R mc ms Z post L M cells slots (a0 :: a1 :: a2 :: a3 :: a4 :: a5 :: a6 :: a7 :: a8 :: a9 :: a10 :: a11 :: a12 :: a13 :: a14 :: a15 :: a16 :: a17 :: some (.null) :: t) q (.null :: st)) : V l G y cc nL ret R mc ms Z post L M cells slots (a0 :: a1 :: a2 :: a3 :: a4 :: a5 :: a6 :: a7 :: a8 :: a9 :: a10 :: a11 :: a12 :: a13 :: a14 :: a15 :: a16 :: a17 :: some (.null) :: t) pc (st) := by
  subst hq
  intro p e s m args below meth c r0 r H locs ls hC hZ hW hR hlo hls
  exact lv_aloadN hC.1 hC.2.1 d (hls.at (i := 18) rfl) (k p e s m args below meth c r0 r H locs ls hC hZ hW hR hlo hls)
theorem V_is18 (q : Nat) {a0 a1 a2 a3 a4 a5 a6 a7 a8 a9 a10 a11 a12 a13 a14 a15 a16 a17 b : Option Value} {t : List (Option Value)} {x : Int32} (d : decode cc pc = .ok (.istore 18, 2)) (hn : 18 < nL) (hq : pc + 2 = q) (k : V l G y cc nL ret R mc ms Z post L M cells slots (a0 :: a1 :: a2 :: a3 :: a4 :: a5 :: a6 :: a7 :: a8 :: a9 :: a10 :: a11 :: a12 :: a13 :: a14 :: a15 :: a16 :: a17 :: some (.int x) :: t) q st) : V l G y cc nL ret R mc ms Z post L M cells slots (a0 :: a1 :: a2 :: a3 :: a4 :: a5 :: a6 :: a7 :: a8 :: a9 :: a10 :: a11 :: a12 :: a13 :: a14 :: a15 :: a16 :: a17 :: b :: t) pc (.int x :: st) := by
  subst hq
  intro p e s m args below meth c r0 r H locs ls hC hZ hW hR hlo hls
  exact lv_istore hC.1 hC.2.1 d hls.1 hn rfl (fun ls' h' => k p e s m args below meth c r0 r H locs ls' hC hZ hW hR hlo (gH.set (i := 18) (v := .int x) hls.2 rfl h'))
theorem V_as18 (q : Nat) {a0 a1 a2 a3 a4 a5 a6 a7 a8 a9 a10 a11 a12 a13 a14 a15 a16 a17 b : Option Value} {t : List (Option Value)} {x : Nat} (d : decode cc pc = .ok (.astore 18, 2)) (hn : 18 < nL) (hq : pc + 2 = q) (k : V l G y cc nL ret R mc ms Z post L M cells slots (a0 :: a1 :: a2 :: a3 :: a4 :: a5 :: a6 :: a7 :: a8 :: a9 :: a10 :: a11 :: a12 :: a13 :: a14 :: a15 :: a16 :: a17 :: some (.ref x) :: t) q st) : V l G y cc nL ret R mc ms Z post L M cells slots (a0 :: a1 :: a2 :: a3 :: a4 :: a5 :: a6 :: a7 :: a8 :: a9 :: a10 :: a11 :: a12 :: a13 :: a14 :: a15 :: a16 :: a17 :: b :: t) pc (.ref x :: st) := by
  subst hq
  intro p e s m args below meth c r0 r H locs ls hC hZ hW hR hlo hls
  exact lv_astore hC.1 hC.2.1 d hls.1 hn rfl (fun ls' h' => k p e s m args below meth c r0 r H locs ls' hC hZ hW hR hlo (gH.set (i := 18) (v := .ref x) hls.2 rfl h'))
theorem V_az18 (q : Nat) {a0 a1 a2 a3 a4 a5 a6 a7 a8 a9 a10 a11 a12 a13 a14 a15 a16 a17 b : Option Value} {t : List (Option Value)}  (d : decode cc pc = .ok (.astore 18, 2)) (hn : 18 < nL) (hq : pc + 2 = q) (k : V l G y cc nL ret R mc ms Z post L M cells slots (a0 :: a1 :: a2 :: a3 :: a4 :: a5 :: a6 :: a7 :: a8 :: a9 :: a10 :: a11 :: a12 :: a13 :: a14 :: a15 :: a16 :: a17 :: some (.null) :: t) q st) : V l G y cc nL ret R mc ms Z post L M cells slots (a0 :: a1 :: a2 :: a3 :: a4 :: a5 :: a6 :: a7 :: a8 :: a9 :: a10 :: a11 :: a12 :: a13 :: a14 :: a15 :: a16 :: a17 :: b :: t) pc (.null :: st) := by
  subst hq
  intro p e s m args below meth c r0 r H locs ls hC hZ hW hR hlo hls
  exact lv_astoreN hC.1 hC.2.1 d hls.1 hn rfl (fun ls' h' => k p e s m args below meth c r0 r H locs ls' hC hZ hW hR hlo (gH.set (i := 18) (v := .null) hls.2 rfl h'))
theorem V_ii18 (q : Nat) {a0 a1 a2 a3 a4 a5 a6 a7 a8 a9 a10 a11 a12 a13 a14 a15 a16 a17 : Option Value} {t : List (Option Value)} {x v : Int32} {n : Int} (d : decode cc pc = .ok (.iinc 18 n, 3)) (hn : 18 < nL) (hv : Int32.ofInt n = v) (hq : pc + 3 = q) (k : V l G y cc nL ret R mc ms Z post L M cells slots (a0 :: a1 :: a2 :: a3 :: a4 :: a5 :: a6 :: a7 :: a8 :: a9 :: a10 :: a11 :: a12 :: a13 :: a14 :: a15 :: a16 :: a17 :: some (.int (x + v)) :: t) q st) : V l G y cc nL ret R mc ms Z post L M cells slots (a0 :: a1 :: a2 :: a3 :: a4 :: a5 :: a6 :: a7 :: a8 :: a9 :: a10 :: a11 :: a12 :: a13 :: a14 :: a15 :: a16 :: a17 :: some (.int x) :: t) pc st := by
  subst hq
  subst hv
  intro p e s m args below meth c r0 r H locs ls hC hZ hW hR hlo hls
  obtain ⟨k9, hk9⟩ := List.getElem?_of_mem (gP_mem.mpr ⟨.int x, rfl, rfl⟩ : (18, Value.int x) ∈ gP r (a0 :: a1 :: a2 :: a3 :: a4 :: a5 :: a6 :: a7 :: a8 :: a9 :: a10 :: a11 :: a12 :: a13 :: a14 :: a15 :: a16 :: a17 :: some (.int x) :: t))
  exact lv_iinc hC.1 hC.2.1 d hls.1 hk9 rfl hn rfl (fun ls' h' => k p e s m args below meth c r0 r H locs ls' hC hZ hW hR hlo (gH.set (i := 18) (v := .int (x + Int32.ofInt n)) hls.2 rfl h'))
theorem V_il19 (q : Nat) {a0 a1 a2 a3 a4 a5 a6 a7 a8 a9 a10 a11 a12 a13 a14 a15 a16 a17 a18 : Option Value} {t : List (Option Value)} {x : Int32} (d : decode cc pc = .ok (.iload 19, 2)) (hq : pc + 2 = q) (k : V l G y cc nL ret R mc ms Z post L M cells slots (a0 :: a1 :: a2 :: a3 :: a4 :: a5 :: a6 :: a7 :: a8 :: a9 :: a10 :: a11 :: a12 :: a13 :: a14 :: a15 :: a16 :: a17 :: a18 :: some (.int x) :: t) q (.int x :: st)) : V l G y cc nL ret R mc ms Z post L M cells slots (a0 :: a1 :: a2 :: a3 :: a4 :: a5 :: a6 :: a7 :: a8 :: a9 :: a10 :: a11 :: a12 :: a13 :: a14 :: a15 :: a16 :: a17 :: a18 :: some (.int x) :: t) pc (st) := by
  subst hq
  intro p e s m args below meth c r0 r H locs ls hC hZ hW hR hlo hls
  exact lv_iload hC.1 hC.2.1 d (hls.at (i := 19) rfl) (k p e s m args below meth c r0 r H locs ls hC hZ hW hR hlo hls)
theorem V_al19 (q : Nat) {a0 a1 a2 a3 a4 a5 a6 a7 a8 a9 a10 a11 a12 a13 a14 a15 a16 a17 a18 : Option Value} {t : List (Option Value)} {x : Nat} (d : decode cc pc = .ok (.aload 19, 2)) (hq : pc + 2 = q) (k : V l G y cc nL ret R mc ms Z post L M cells slots (a0 :: a1 :: a2 :: a3 :: a4 :: a5 :: a6 :: a7 :: a8 :: a9 :: a10 :: a11 :: a12 :: a13 :: a14 :: a15 :: a16 :: a17 :: a18 :: some (.ref x) :: t) q (.ref x :: st)) : V l G y cc nL ret R mc ms Z post L M cells slots (a0 :: a1 :: a2 :: a3 :: a4 :: a5 :: a6 :: a7 :: a8 :: a9 :: a10 :: a11 :: a12 :: a13 :: a14 :: a15 :: a16 :: a17 :: a18 :: some (.ref x) :: t) pc (st) := by
  subst hq
  intro p e s m args below meth c r0 r H locs ls hC hZ hW hR hlo hls
  exact lv_aload hC.1 hC.2.1 d (hls.at (i := 19) rfl) (k p e s m args below meth c r0 r H locs ls hC hZ hW hR hlo hls)
theorem V_an19 (q : Nat) {a0 a1 a2 a3 a4 a5 a6 a7 a8 a9 a10 a11 a12 a13 a14 a15 a16 a17 a18 : Option Value} {t : List (Option Value)}  (d : decode cc pc = .ok (.aload 19, 2)) (hq : pc + 2 = q) (k : V l G y cc nL ret R mc ms Z post L M cells slots (a0 :: a1 :: a2 :: a3 :: a4 :: a5 :: a6 :: a7 :: a8 :: a9 :: a10 :: a11 :: a12 :: a13 :: a14 :: a15 :: a16 :: a17 :: a18 :: some (.null) :: t) q (.null :: st)) : V l G y cc nL ret R mc ms Z post L M cells slots (a0 :: a1 :: a2 :: a3 :: a4 :: a5 :: a6 :: a7 :: a8 :: a9 :: a10 :: a11 :: a12 :: a13 :: a14 :: a15 :: a16 :: a17 :: a18 :: some (.null) :: t) pc (st) := by
  subst hq
  intro p e s m args below meth c r0 r H locs ls hC hZ hW hR hlo hls
  exact lv_aloadN hC.1 hC.2.1 d (hls.at (i := 19) rfl) (k p e s m args below meth c r0 r H locs ls hC hZ hW hR hlo hls)
theorem V_is19 (q : Nat) {a0 a1 a2 a3 a4 a5 a6 a7 a8 a9 a10 a11 a12 a13 a14 a15 a16 a17 a18 b : Option Value} {t : List (Option Value)} {x : Int32} (d : decode cc pc = .ok (.istore 19, 2)) (hn : 19 < nL) (hq : pc + 2 = q) (k : V l G y cc nL ret R mc ms Z post L M cells slots (a0 :: a1 :: a2 :: a3 :: a4 :: a5 :: a6 :: a7 :: a8 :: a9 :: a10 :: a11 :: a12 :: a13 :: a14 :: a15 :: a16 :: a17 :: a18 :: some (.int x) :: t) q st) : V l G y cc nL ret R mc ms Z post L M cells slots (a0 :: a1 :: a2 :: a3 :: a4 :: a5 :: a6 :: a7 :: a8 :: a9 :: a10 :: a11 :: a12 :: a13 :: a14 :: a15 :: a16 :: a17 :: a18 :: b :: t) pc (.int x :: st) := by
  subst hq
  intro p e s m args below meth c r0 r H locs ls hC hZ hW hR hlo hls
  exact lv_istore hC.1 hC.2.1 d hls.1 hn rfl (fun ls' h' => k p e s m args below meth c r0 r H locs ls' hC hZ hW hR hlo (gH.set (i := 19) (v := .int x) hls.2 rfl h'))
theorem V_as19 (q : Nat) {a0 a1 a2 a3 a4 a5 a6 a7 a8 a9 a10 a11 a12 a13 a14 a15 a16 a17 a18 b : Option Value} {t : List (Option Value)} {x : Nat} (d : decode cc pc = .ok (.astore 19, 2)) (hn : 19 < nL) (hq : pc + 2 = q) (k : V l G y cc nL ret R mc ms Z post L M cells slots (a0 :: a1 :: a2 :: a3 :: a4 :: a5 :: a6 :: a7 :: a8 :: a9 :: a10 :: a11 :: a12 :: a13 :: a14 :: a15 :: a16 :: a17 :: a18 :: some (.ref x) :: t) q st) : V l G y cc nL ret R mc ms Z post L M cells slots (a0 :: a1 :: a2 :: a3 :: a4 :: a5 :: a6 :: a7 :: a8 :: a9 :: a10 :: a11 :: a12 :: a13 :: a14 :: a15 :: a16 :: a17 :: a18 :: b :: t) pc (.ref x :: st) := by
  subst hq
  intro p e s m args below meth c r0 r H locs ls hC hZ hW hR hlo hls
  exact lv_astore hC.1 hC.2.1 d hls.1 hn rfl (fun ls' h' => k p e s m args below meth c r0 r H locs ls' hC hZ hW hR hlo (gH.set (i := 19) (v := .ref x) hls.2 rfl h'))
theorem V_az19 (q : Nat) {a0 a1 a2 a3 a4 a5 a6 a7 a8 a9 a10 a11 a12 a13 a14 a15 a16 a17 a18 b : Option Value} {t : List (Option Value)}  (d : decode cc pc = .ok (.astore 19, 2)) (hn : 19 < nL) (hq : pc + 2 = q) (k : V l G y cc nL ret R mc ms Z post L M cells slots (a0 :: a1 :: a2 :: a3 :: a4 :: a5 :: a6 :: a7 :: a8 :: a9 :: a10 :: a11 :: a12 :: a13 :: a14 :: a15 :: a16 :: a17 :: a18 :: some (.null) :: t) q st) : V l G y cc nL ret R mc ms Z post L M cells slots (a0 :: a1 :: a2 :: a3 :: a4 :: a5 :: a6 :: a7 :: a8 :: a9 :: a10 :: a11 :: a12 :: a13 :: a14 :: a15 :: a16 :: a17 :: a18 :: b :: t) pc (.null :: st) := by
  subst hq
  intro p e s m args below meth c r0 r H locs ls hC hZ hW hR hlo hls
  exact lv_astoreN hC.1 hC.2.1 d hls.1 hn rfl (fun ls' h' => k p e s m args below meth c r0 r H locs ls' hC hZ hW hR hlo (gH.set (i := 19) (v := .null) hls.2 rfl h'))
theorem V_ii19 (q : Nat) {a0 a1 a2 a3 a4 a5 a6 a7 a8 a9 a10 a11 a12 a13 a14 a15 a16 a17 a18 : Option Value} {t : List (Option Value)} {x v : Int32} {n : Int} (d : decode cc pc = .ok (.iinc 19 n, 3)) (hn : 19 < nL) (hv : Int32.ofInt n = v) (hq : pc + 3 = q) (k : V l G y cc nL ret R mc ms Z post L M cells slots (a0 :: a1 :: a2 :: a3 :: a4 :: a5 :: a6 :: a7 :: a8 :: a9 :: a10 :: a11 :: a12 :: a13 :: a14 :: a15 :: a16 :: a17 :: a18 :: some (.int (x + v)) :: t) q st) : V l G y cc nL ret R mc ms Z post L M cells slots (a0 :: a1 :: a2 :: a3 :: a4 :: a5 :: a6 :: a7 :: a8 :: a9 :: a10 :: a11 :: a12 :: a13 :: a14 :: a15 :: a16 :: a17 :: a18 :: some (.int x) :: t) pc st := by
  subst hq
  subst hv
  intro p e s m args below meth c r0 r H locs ls hC hZ hW hR hlo hls
  obtain ⟨k9, hk9⟩ := List.getElem?_of_mem (gP_mem.mpr ⟨.int x, rfl, rfl⟩ : (19, Value.int x) ∈ gP r (a0 :: a1 :: a2 :: a3 :: a4 :: a5 :: a6 :: a7 :: a8 :: a9 :: a10 :: a11 :: a12 :: a13 :: a14 :: a15 :: a16 :: a17 :: a18 :: some (.int x) :: t))
  exact lv_iinc hC.1 hC.2.1 d hls.1 hk9 rfl hn rfl (fun ls' h' => k p e s m args below meth c r0 r H locs ls' hC hZ hW hR hlo (gH.set (i := 19) (v := .int (x + Int32.ofInt n)) hls.2 rfl h'))
theorem V_il20 (q : Nat) {a0 a1 a2 a3 a4 a5 a6 a7 a8 a9 a10 a11 a12 a13 a14 a15 a16 a17 a18 a19 : Option Value} {t : List (Option Value)} {x : Int32} (d : decode cc pc = .ok (.iload 20, 2)) (hq : pc + 2 = q) (k : V l G y cc nL ret R mc ms Z post L M cells slots (a0 :: a1 :: a2 :: a3 :: a4 :: a5 :: a6 :: a7 :: a8 :: a9 :: a10 :: a11 :: a12 :: a13 :: a14 :: a15 :: a16 :: a17 :: a18 :: a19 :: some (.int x) :: t) q (.int x :: st)) : V l G y cc nL ret R mc ms Z post L M cells slots (a0 :: a1 :: a2 :: a3 :: a4 :: a5 :: a6 :: a7 :: a8 :: a9 :: a10 :: a11 :: a12 :: a13 :: a14 :: a15 :: a16 :: a17 :: a18 :: a19 :: some (.int x) :: t) pc (st) := by
  subst hq
  intro p e s m args below meth c r0 r H locs ls hC hZ hW hR hlo hls
  exact lv_iload hC.1 hC.2.1 d (hls.at (i := 20) rfl) (k p e s m args below meth c r0 r H locs ls hC hZ hW hR hlo hls)
theorem V_al20 (q : Nat) {a0 a1 a2 a3 a4 a5 a6 a7 a8 a9 a10 a11 a12 a13 a14 a15 a16 a17 a18 a19 : Option Value} {t : List (Option Value)} {x : Nat} (d : decode cc pc = .ok (.aload 20, 2)) (hq : pc + 2 = q) (k : V l G y cc nL ret R mc ms Z post L M cells slots (a0 :: a1 :: a2 :: a3 :: a4 :: a5 :: a6 :: a7 :: a8 :: a9 :: a10 :: a11 :: a12 :: a13 :: a14 :: a15 :: a16 :: a17 :: a18 :: a19 :: some (.ref x) :: t) q (.ref x :: st)) : V l G y cc nL ret R mc ms Z post L M cells slots (a0 :: a1 :: a2 :: a3 :: a4 :: a5 :: a6 :: a7 :: a8 :: a9 :: a10 :: a11 :: a12 :: a13 :: a14 :: a15 :: a16 :: a17 :: a18 :: a19 :: some (.ref x) :: t) pc (st) := by
  subst hq
  intro p e s m args below meth c r0 r H locs ls hC hZ hW hR hlo hls
  exact lv_aload hC.1 hC.2.1 d (hls.at (i := 20) rfl) (k p e s m args below meth c r0 r H locs ls hC hZ hW hR hlo hls)
theorem V_an20 (q : Nat) {a0 a1 a2 a3 a4 a5 a6 a7 a8 a9 a10 a11 a12 a13 a14 a15 a16 a17 a18 a19 : Option Value} {t : List (Option Value)}  (d : decode cc pc = .ok (.aload 20, 2)) (hq : pc + 2 = q) (k : V l G y cc nL ret R mc ms Z post L M cells slots (a0 :: a1 :: a2 :: a3 :: a4 :: a5 :: a6 :: a7 :: a8 :: a9 :: a10 :: a11 :: a12 :: a13 :: a14 :: a15 :: a16 :: a17 :: a18 :: a19 :: some (.null) :: t) q (.null :: st)) : V l G y cc nL ret R mc ms Z post L M cells slots (a0 :: a1 :: a2 :: a3 :: a4 :: a5 :: a6 :: a7 :: a8 :: a9 :: a10 :: a11 :: a12 :: a13 :: a14 :: a15 :: a16 :: a17 :: a18 :: a19 :: some (.null) :: t) pc (st) := by
  subst hq
  intro p e s m args below meth c r0 r H locs ls hC hZ hW hR hlo hls
  exact lv_aloadN hC.1 hC.2.1 d (hls.at (i := 20) rfl) (k p e s m args below meth c r0 r H locs ls hC hZ hW hR hlo hls)
theorem V_is20 (q : Nat) {a0 a1 a2 a3 a4 a5 a6 a7 a8 a9 a10 a11 a12 a13 a14 a15 a16 a17 a18 a19 b : Option Value} {t : List (Option Value)} {x : Int32} (d : decode cc pc = .ok (.istore 20, 2)) (hn : 20 < nL) (hq : pc + 2 = q) (k : V l G y cc nL ret R mc ms Z post L M cells slots (a0 :: a1 :: a2 :: a3 :: a4 :: a5 :: a6 :: a7 :: a8 :: a9 :: a10 :: a11 :: a12 :: a13 :: a14 :: a15 :: a16 :: a17 :: a18 :: a19 :: some (.int x) :: t) q st) : V l G y cc nL ret R mc ms Z post L M cells slots (a0 :: a1 :: a2 :: a3 :: a4 :: a5 :: a6 :: a7 :: a8 :: a9 :: a10 :: a11 :: a12 :: a13 :: a14 :: a15 :: a16 :: a17 :: a18 :: a19 :: b :: t) pc (.int x :: st) := by
  subst hq
  intro p e s m args below meth c r0 r H locs ls hC hZ hW hR hlo hls
  exact lv_istore hC.1 hC.2.1 d hls.1 hn rfl (fun ls' h' => k p e s m args below meth c r0 r H locs ls' hC hZ hW hR hlo (gH.set (i := 20) (v := .int x) hls.2 rfl h'))
theorem V_as20 (q : Nat) {a0 a1 a2 a3 a4 a5 a6 a7 a8 a9 a10 a11 a12 a13 a14 a15 a16 a17 a18 a19 b : Option Value} {t : List (Option Value)} {x : Nat} (d : decode cc pc = .ok (.astore 20, 2)) (hn : 20 < nL) (hq : pc + 2 = q) (k : V l G y cc nL ret R mc ms Z post L M cells slots (a0 :: a1 :: a2 :: a3 :: a4 :: a5 :: a6 :: a7 :: a8 :: a9 :: a10 :: a11 :: a12 :: a13 :: a14 :: a15 :: a16 :: a17 :: a18 :: a19 :: some (.ref x) :: t) q st) : V l G y cc nL ret R mc ms Z post L M cells slots (a0 :: a1 :: a2 :: a3 :: a4 :: a5 :: a6 :: a7 :: a8 :: a9 :: a10 :: a11 :: a12 :: a13 :: a14 :: a15 :: a16 :: a17 :: a18 :: a19 :: b :: t) pc (.ref x :: st) := by
  subst hq
  intro p e s m args below meth c r0 r H locs ls hC hZ hW hR hlo hls
  exact lv_astore hC.1 hC.2.1 d hls.1 hn rfl (fun ls' h' => k p e s m args below meth c r0 r H locs ls' hC hZ hW hR hlo (gH.set (i := 20) (v := .ref x) hls.2 rfl h'))
theorem V_az20 (q : Nat) {a0 a1 a2 a3 a4 a5 a6 a7 a8 a9 a10 a11 a12 a13 a14 a15 a16 a17 a18 a19 b : Option Value} {t : List (Option Value)}  (d : decode cc pc = .ok (.astore 20, 2)) (hn : 20 < nL) (hq : pc + 2 = q) (k : V l G y cc nL ret R mc ms Z post L M cells slots (a0 :: a1 :: a2 :: a3 :: a4 :: a5 :: a6 :: a7 :: a8 :: a9 :: a10 :: a11 :: a12 :: a13 :: a14 :: a15 :: a16 :: a17 :: a18 :: a19 :: some (.null) :: t) q st) : V l G y cc nL ret R mc ms Z post L M cells slots (a0 :: a1 :: a2 :: a3 :: a4 :: a5 :: a6 :: a7 :: a8 :: a9 :: a10 :: a11 :: a12 :: a13 :: a14 :: a15 :: a16 :: a17 :: a18 :: a19 :: b :: t) pc (.null :: st) := by
  subst hq
  intro p e s m args below meth c r0 r H locs ls hC hZ hW hR hlo hls
  exact lv_astoreN hC.1 hC.2.1 d hls.1 hn rfl (fun ls' h' => k p e s m args below meth c r0 r H locs ls' hC hZ hW hR hlo (gH.set (i := 20) (v := .null) hls.2 rfl h'))
theorem V_ii20 (q : Nat) {a0 a1 a2 a3 a4 a5 a6 a7 a8 a9 a10 a11 a12 a13 a14 a15 a16 a17 a18 a19 : Option Value} {t : List (Option Value)} {x v : Int32} {n : Int} (d : decode cc pc = .ok (.iinc 20 n, 3)) (hn : 20 < nL) (hv : Int32.ofInt n = v) (hq : pc + 3 = q) (k : V l G y cc nL ret R mc ms Z post L M cells slots (a0 :: a1 :: a2 :: a3 :: a4 :: a5 :: a6 :: a7 :: a8 :: a9 :: a10 :: a11 :: a12 :: a13 :: a14 :: a15 :: a16 :: a17 :: a18 :: a19 :: some (.int (x + v)) :: t) q st) : V l G y cc nL ret R mc ms Z post L M cells slots (a0 :: a1 :: a2 :: a3 :: a4 :: a5 :: a6 :: a7 :: a8 :: a9 :: a10 :: a11 :: a12 :: a13 :: a14 :: a15 :: a16 :: a17 :: a18 :: a19 :: some (.int x) :: t) pc st := by
  subst hq
  subst hv
  intro p e s m args below meth c r0 r H locs ls hC hZ hW hR hlo hls
  obtain ⟨k9, hk9⟩ := List.getElem?_of_mem (gP_mem.mpr ⟨.int x, rfl, rfl⟩ : (20, Value.int x) ∈ gP r (a0 :: a1 :: a2 :: a3 :: a4 :: a5 :: a6 :: a7 :: a8 :: a9 :: a10 :: a11 :: a12 :: a13 :: a14 :: a15 :: a16 :: a17 :: a18 :: a19 :: some (.int x) :: t))
  exact lv_iinc hC.1 hC.2.1 d hls.1 hk9 rfl hn rfl (fun ls' h' => k p e s m args below meth c r0 r H locs ls' hC hZ hW hR hlo (gH.set (i := 20) (v := .int (x + Int32.ofInt n)) hls.2 rfl h'))
theorem V_il21 (q : Nat) {a0 a1 a2 a3 a4 a5 a6 a7 a8 a9 a10 a11 a12 a13 a14 a15 a16 a17 a18 a19 a20 : Option Value} {t : List (Option Value)} {x : Int32} (d : decode cc pc = .ok (.iload 21, 2)) (hq : pc + 2 = q) (k : V l G y cc nL ret R mc ms Z post L M cells slots (a0 :: a1 :: a2 :: a3 :: a4 :: a5 :: a6 :: a7 :: a8 :: a9 :: a10 :: a11 :: a12 :: a13 :: a14 :: a15 :: a16 :: a17 :: a18 :: a19 :: a20 :: some (.int x) :: t) q (.int x :: st)) : V l G y cc nL ret R mc ms Z post L M cells slots (a0 :: a1 :: a2 :: a3 :: a4 :: a5 :: a6 :: a7 :: a8 :: a9 :: a10 :: a11 :: a12 :: a13 :: a14 :: a15 :: a16 :: a17 :: a18 :: a19 :: a20 :: some (.int x) :: t) pc (st) := by
  subst hq
  intro p e s m args below meth c r0 r H locs ls hC hZ hW hR hlo hls
  exact lv_iload hC.1 hC.2.1 d (hls.at (i := 21) rfl) (k p e s m args below meth c r0 r H locs ls hC hZ hW hR hlo hls)
theorem V_al21 (q : Nat) {a0 a1 a2 a3 a4 a5 a6 a7 a8 a9 a10 a11 a12 a13 a14 a15 a16 a17 a18 a19 a20 : Option Value} {t : List (Option Value)} {x : Nat} (d : decode cc pc = .ok (.aload 21, 2)) (hq : pc + 2 = q) (k : V l G y cc nL ret R mc ms Z post L M cells slots (a0 :: a1 :: a2 :: a3 :: a4 :: a5 :: a6 :: a7 :: a8 :: a9 :: a10 :: a11 :: a12 :: a13 :: a14 :: a15 :: a16 :: a17 :: a18 :: a19 :: a20 :: some (.ref x) :: t) q (.ref x :: st)) : V l G y cc nL ret R mc ms Z post L M cells slots (a0 :: a1 :: a2 :: a3 :: a4 :: a5 :: a6 :: a7 :: a8 :: a9 :: a10 :: a11 :: a12 :: a13 :: a14 :: a15 :: a16 :: a17 :: a18 :: a19 :: a20 :: some (.ref x) :: t) pc (st) := by
  subst hq
  intro p e s m args below meth c r0 r H locs ls hC hZ hW hR hlo hls
  exact lv_aload hC.1 hC.2.1 d (hls.at (i := 21) rfl) (k p e s m args below meth c r0 r H locs ls hC hZ hW hR hlo hls)
theorem V_an21 (q : Nat) {a0 a1 a2 a3 a4 a5 a6 a7 a8 a9 a10 a11 a12 a13 a14 a15 a16 a17 a18 a19 a20 : Option Value} {t : List (Option Value)}  (d : decode cc pc = .ok (.aload 21, 2)) (hq : pc + 2 = q) (k : V l G y cc nL ret R mc ms Z post L M cells slots (a0 :: a1 :: a2 :: a3 :: a4 :: a5 :: a6 :: a7 :: a8 :: a9 :: a10 :: a11 :: a12 :: a13 :: a14 :: a15 :: a16 :: a17 :: a18 :: a19 :: a20 :: some (.null) :: t) q (.null :: st)) : V l G y cc nL ret R mc ms Z post L M cells slots (a0 :: a1 :: a2 :: a3 :: a4 :: a5 :: a6 :: a7 :: a8 :: a9 :: a10 :: a11 :: a12 :: a13 :: a14 :: a15 :: a16 :: a17 :: a18 :: a19 :: a20 :: some (.null) :: t) pc (st) := by
  subst hq
  intro p e s m args below meth c r0 r H locs ls hC hZ hW hR hlo hls
  exact lv_aloadN hC.1 hC.2.1 d (hls.at (i := 21) rfl) (k p e s m args below meth c r0 r H locs ls hC hZ hW hR hlo hls)
theorem V_is21 (q : Nat) {a0 a1 a2 a3 a4 a5 a6 a7 a8 a9 a10 a11 a12 a13 a14 a15 a16 a17 a18 a19 a20 b : Option Value} {t : List (Option Value)} {x : Int32} (d : decode cc pc = .ok (.istore 21, 2)) (hn : 21 < nL) (hq : pc + 2 = q) (k : V l G y cc nL ret R mc ms Z post L M cells slots (a0 :: a1 :: a2 :: a3 :: a4 :: a5 :: a6 :: a7 :: a8 :: a9 :: a10 :: a11 :: a12 :: a13 :: a14 :: a15 :: a16 :: a17 :: a18 :: a19 :: a20 :: some (.int x) :: t) q st) : V l G y cc nL ret R mc ms Z post L M cells slots (a0 :: a1 :: a2 :: a3 :: a4 :: a5 :: a6 :: a7 :: a8 :: a9 :: a10 :: a11 :: a12 :: a13 :: a14 :: a15 :: a16 :: a17 :: a18 :: a19 :: a20 :: b :: t) pc (.int x :: st) := by
  subst hq
  intro p e s m args below meth c r0 r H locs ls hC hZ hW hR hlo hls
  exact lv_istore hC.1 hC.2.1 d hls.1 hn rfl (fun ls' h' => k p e s m args below meth c r0 r H locs ls' hC hZ hW hR hlo (gH.set (i := 21) (v := .int x) hls.2 rfl h'))
theorem V_as21 (q : Nat) {a0 a1 a2 a3 a4 a5 a6 a7 a8 a9 a10 a11 a12 a13 a14 a15 a16 a17 a18 a19 a20 b : Option Value} {t : List (Option Value)} {x : Nat} (d : decode cc pc = .ok (.astore 21, 2)) (hn : 21 < nL) (hq : pc + 2 = q) (k : V l G y cc nL ret R mc ms Z post L M cells slots (a0 :: a1 :: a2 :: a3 :: a4 :: a5 :: a6 :: a7 :: a8 :: a9 :: a10 :: a11 :: a12 :: a13 :: a14 :: a15 :: a16 :: a17 :: a18 :: a19 :: a20 :: some (.ref x) :: t) q st) : V l G y cc nL ret R mc ms Z post L M cells slots (a0 :: a1 :: a2 :: a3 :: a4 :: a5 :: a6 :: a7 :: a8 :: a9 :: a10 :: a11 :: a12 :: a13 :: a14 :: a15 :: a16 :: a17 :: a18 :: a19 :: a20 :: b :: t) pc (.ref x :: st) := by
  subst hq
  intro p e s m args below meth c r0 r H locs ls hC hZ hW hR hlo hls
  exact lv_astore hC.1 hC.2.1 d hls.1 hn rfl (fun ls' h' => k p e s m args below meth c r0 r H locs ls' hC hZ hW hR hlo (gH.set (i := 21) (v := .ref x) hls.2 rfl h'))
theorem V_az21 (q : Nat) {a0 a1 a2 a3 a4 a5 a6 a7 a8 a9 a10 a11 a12 a13 a14 a15 a16 a17 a18 a19 a20 b : Option Value} {t : List (Option Value)}  (d : decode cc pc = .ok (.astore 21, 2)) (hn : 21 < nL) (hq : pc + 2 = q) (k : V l G y cc nL ret R mc ms Z post L M cells slots (a0 :: a1 :: a2 :: a3 :: a4 :: a5 :: a6 :: a7 :: a8 :: a9 :: a10 :: a11 :: a12 :: a13 :: a14 :: a15 :: a16 :: a17 :: a18 :: a19 :: a20 :: some (.null) :: t) q st) : V l G y cc nL ret R mc ms Z post L M cells slots (a0 :: a1 :: a2 :: a3 :: a4 :: a5 :: a6 :: a7 :: a8 :: a9 :: a10 :: a11 :: a12 :: a13 :: a14 :: a15 :: a16 :: a17 :: a18 :: a19 :: a20 :: b :: t) pc (.null :: st) := by
  subst hq
  intro p e s m args below meth c r0 r H locs ls hC hZ hW hR hlo hls
  exact lv_astoreN hC.1 hC.2.1 d hls.1 hn rfl (fun ls' h' => k p e s m args below meth c r0 r H locs ls' hC hZ hW hR hlo (gH.set (i := 21) (v := .null) hls.2 rfl h'))
theorem V_ii21 (q : Nat) {a0 a1 a2 a3 a4 a5 a6 a7 a8 a9 a10 a11 a12 a13 a14 a15 a16 a17 a18 a19 a20 : Option Value} {t : List (Option Value)} {x v : Int32} {n : Int} (d : decode cc pc = .ok (.iinc 21 n, 3)) (hn : 21 < nL) (hv : Int32.ofInt n = v) (hq : pc + 3 = q) (k : V l G y cc nL ret R mc ms Z post L M cells slots (a0 :: a1 :: a2 :: a3 :: a4 :: a5 :: a6 :: a7 :: a8 :: a9 :: a10 :: a11 :: a12 :: a13 :: a14 :: a15 :: a16 :: a17 :: a18 :: a19 :: a20 :: some (.int (x + v)) :: t) q st) : V l G y cc nL ret R mc ms Z post L M cells slots (a0 :: a1 :: a2 :: a3 :: a4 :: a5 :: a6 :: a7 :: a8 :: a9 :: a10 :: a11 :: a12 :: a13 :: a14 :: a15 :: a16 :: a17 :: a18 :: a19 :: a20 :: some (.int x) :: t) pc st := by
  subst hq
  subst hv
  intro p e s m args below meth c r0 r H locs ls hC hZ hW hR hlo hls
  obtain ⟨k9, hk9⟩ := List.getElem?_of_mem (gP_mem.mpr ⟨.int x, rfl, rfl⟩ : (21, Value.int x) ∈ gP r (a0 :: a1 :: a2 :: a3 :: a4 :: a5 :: a6 :: a7 :: a8 :: a9 :: a10 :: a11 :: a12 :: a13 :: a14 :: a15 :: a16 :: a17 :: a18 :: a19 :: a20 :: some (.int x) :: t))
  exact lv_iinc hC.1 hC.2.1 d hls.1 hk9 rfl hn rfl (fun ls' h' => k p e s m args below meth c r0 r H locs ls' hC hZ hW hR hlo (gH.set (i := 21) (v := .int (x + Int32.ofInt n)) hls.2 rfl h'))
theorem V_il22 (q : Nat) {a0 a1 a2 a3 a4 a5 a6 a7 a8 a9 a10 a11 a12 a13 a14 a15 a16 a17 a18 a19 a20 a21 : Option Value} {t : List (Option Value)} {x : Int32} (d : decode cc pc = .ok (.iload 22, 2)) (hq : pc + 2 = q) (k : V l G y cc nL ret R mc ms Z post L M cells slots (a0 :: a1 :: a2 :: a3 :: a4 :: a5 :: a6 :: a7 :: a8 :: a9 :: a10 :: a11 :: a12 :: a13 :: a14 :: a15 :: a16 :: a17 :: a18 :: a19 :: a20 :: a21 :: some (.int x) :: t) q (.int x :: st)) : V l G y cc nL ret R mc ms Z post L M cells slots (a0 :: a1 :: a2 :: a3 :: a4 :: a5 :: a6 :: a7 :: a8 :: a9 :: a10 :: a11 :: a12 :: a13 :: a14 :: a15 :: a16 :: a17 :: a18 :: a19 :: a20 :: a21 :: some (.int x) :: t) pc (st) := by
  subst hq
  intro p e s m args below meth c r0 r H locs ls hC hZ hW hR hlo hls
  exact lv_iload hC.1 hC.2.1 d (hls.at (i := 22) rfl) (k p e s m args below meth c r0 r H locs ls hC hZ hW hR hlo hls)
theorem V_al22 (q : Nat) {a0 a1 a2 a3 a4 a5 a6 a7 a8 a9 a10 a11 a12 a13 a14 a15 a16 a17 a18 a19 a20 a21 : Option Value} {t : List (Option Value)} {x : Nat} (d : decode cc pc = .ok (.aload 22, 2)) (hq : pc + 2 = q) (k : V l G y cc nL ret R mc ms Z post L M cells slots (a0 :: a1 :: a2 :: a3 :: a4 :: a5 :: a6 :: a7 :: a8 :: a9 :: a10 :: a11 :: a12 :: a13 :: a14 :: a15 :: a16 :: a17 :: a18 :: a19 :: a20 :: a21 :: some (.ref x) :: t) q (.ref x :: st)) : V l G y cc nL ret R mc ms Z post L M cells slots (a0 :: a1 :: a2 :: a3 :: a4 :: a5 :: a6 :: a7 :: a8 :: a9 :: a10 :: a11 :: a12 :: a13 :: a14 :: a15 :: a16 :: a17 :: a18 :: a19 :: a20 :: a21 :: some (.ref x) :: t) pc (st) := by
  subst hq
  intro p e s m args below meth c r0 r H locs ls hC hZ hW hR hlo hls
  exact lv_aload hC.1 hC.2.1 d (hls.at (i := 22) rfl) (k p e s m args below meth c r0 r H locs ls hC hZ hW hR hlo hls)
theorem V_an22 (q : Nat) {a0 a1 a2 a3 a4 a5 a6 a7 a8 a9 a10 a11 a12 a13 a14 a15 a16 a17 a18 a19 a20 a21 : Option Value} {t : List (Option Value)}  (d : decode cc pc = .ok (.aload 22, 2)) (hq : pc + 2 = q) (k : V l G y cc nL ret R mc ms Z post L M cells slots (a0 :: a1 :: a2 :: a3 :: a4 :: a5 :: a6 :: a7 :: a8 :: a9 :: a10 :: a11 :: a12 :: a13 :: a14 :: a15 :: a16 :: a17 :: a18 :: a19 :: a20 :: a21 :: some (.null) :: t) q (.null :: st)) : V l G y cc nL ret R mc ms Z post L M cells slots (a0 :: a1 :: a2 :: a3 :: a4 :: a5 :: a6 :: a7 :: a8 :: a9 :: a10 :: a11 :: a12 :: a13 :: a14 :: a15 :: a16 :: a17 :: a18 :: a19 :: a20 :: a21 :: some (.null) :: t) pc (st) := by
  subst hq
  intro p e s m args below meth c r0 r H locs ls hC hZ hW hR hlo hls
  exact lv_aloadN hC.1 hC.2.1 d (hls.at (i := 22) rfl) (k p e s m args below meth c r0 r H locs ls hC hZ hW hR hlo hls)
theorem V_is22 (q : Nat) {a0 a1 a2 a3 a4 a5 a6 a7 a8 a9 a10 a11 a12 a13 a14 a15 a16 a17 a18 a19 a20 a21 b : Option Value} {t : List (Option Value)} {x : Int32} (d : decode cc pc = .ok (.istore 22, 2)) (hn : 22 < nL) (hq : pc + 2 = q) (k : V l G y cc nL ret R mc ms Z post L M cells slots (a0 :: a1 :: a2 :: a3 :: a4 :: a5 :: a6 :: a7 :: a8 :: a9 :: a10 :: a11 :: a12 :: a13 :: a14 :: a15 :: a16 :: a17 :: a18 :: a19 :: a20 :: a21 :: some (.int x) :: t) q st) : V l G y cc nL ret R mc ms Z post L M cells slots (a0 :: a1 :: a2 :: a3 :: a4 :: a5 :: a6 :: a7 :: a8 :: a9 :: a10 :: a11 :: a12 :: a13 :: a14 :: a15 :: a16 :: a17 :: a18 :: a19 :: a20 :: a21 :: b :: t) pc (.int x :: st) := by
  subst hq
  intro p e s m args below meth c r0 r H locs ls hC hZ hW hR hlo hls
  exact lv_istore hC.1 hC.2.1 d hls.1 hn rfl (fun ls' h' => k p e s m args below meth c r0 r H locs ls' hC hZ hW hR hlo (gH.set (i := 22) (v := .int x) hls.2 rfl h'))
theorem V_as22 (q : Nat) {a0 a1 a2 a3 a4 a5 a6 a7 a8 a9 a10 a11 a12 a13 a14 a15 a16 a17 a18 a19 a20 a21 b : Option Value} {t : List (Option Value)} {x : Nat} (d : decode cc pc = .ok (.astore 22, 2)) (hn : 22 < nL) (hq : pc + 2 = q) (k : V l G y cc nL ret R mc ms Z post L M cells slots (a0 :: a1 :: a2 :: a3 :: a4 :: a5 :: a6 :: a7 :: a8 :: a9 :: a10 :: a11 :: a12 :: a13 :: a14 :: a15 :: a16 :: a17 :: a18 :: a19 :: a20 :: a21 :: some (.ref x) :: t) q st) : V l G y cc nL ret R mc ms Z post L M cells slots (a0 :: a1 :: a2 :: a3 :: a4 :: a5 :: a6 :: a7 :: a8 :: a9 :: a10 :: a11 :: a12 :: a13 :: a14 :: a15 :: a16 :: a17 :: a18 :: a19 :: a20 :: a21 :: b :: t) pc (.ref x :: st) := by
  subst hq
  intro p e s m args below meth c r0 r H locs ls hC hZ hW hR hlo hls
  exact lv_astore hC.1 hC.2.1 d hls.1 hn rfl (fun ls' h' => k p e s m args below meth c r0 r H locs ls' hC hZ hW hR hlo (gH.set (i := 22) (v := .ref x) hls.2 rfl h'))
theorem V_az22 (q : Nat) {a0 a1 a2 a3 a4 a5 a6 a7 a8 a9 a10 a11 a12 a13 a14 a15 a16 a17 a18 a19 a20 a21 b : Option Value} {t : List (Option Value)}  (d : decode cc pc = .ok (.astore 22, 2)) (hn : 22 < nL) (hq : pc + 2 = q) (k : V l G y cc nL ret R mc ms Z post L M cells slots (a0 :: a1 :: a2 :: a3 :: a4 :: a5 :: a6 :: a7 :: a8 :: a9 :: a10 :: a11 :: a12 :: a13 :: a14 :: a15 :: a16 :: a17 :: a18 :: a19 :: a20 :: a21 :: some (.null) :: t) q st) : V l G y cc nL ret R mc ms Z post L M cells slots (a0 :: a1 :: a2 :: a3 :: a4 :: a5 :: a6 :: a7 :: a8 :: a9 :: a10 :: a11 :: a12 :: a13 :: a14 :: a15 :: a16 :: a17 :: a18 :: a19 :: a20 :: a21 :: b :: t) pc (.null :: st) := by
  subst hq
  intro p e s m args below meth c r0 r H locs ls hC hZ hW hR hlo hls
  exact lv_astoreN hC.1 hC.2.1 d hls.1 hn rfl (fun ls' h' => k p e s m args below meth c r0 r H locs ls' hC hZ hW hR hlo (gH.set (i := 22) (v := .null) hls.2 rfl h'))
theorem V_ii22 (q : Nat) {a0 a1 a2 a3 a4 a5 a6 a7 a8 a9 a10 a11 a12 a13 a14 a15 a16 a17 a18 a19 a20 a21 : Option Value} {t : List (Option Value)} {x v : Int32} {n : Int} (d : decode cc pc = .ok (.iinc 22 n, 3)) (hn : 22 < nL) (hv : Int32.ofInt n = v) (hq : pc + 3 = q) (k : V l G y cc nL ret R mc ms Z post L M cells slots (a0 :: a1 :: a2 :: a3 :: a4 :: a5 :: a6 :: a7 :: a8 :: a9 :: a10 :: a11 :: a12 :: a13 :: a14 :: a15 :: a16 :: a17 :: a18 :: a19 :: a20 :: a21 :: some (.int (x + v)) :: t) q st) : V l G y cc nL ret R mc ms Z post L M cells slots (a0 :: a1 :: a2 :: a3 :: a4 :: a5 :: a6 :: a7 :: a8 :: a9 :: a10 :: a11 :: a12 :: a13 :: a14 :: a15 :: a16 :: a17 :: a18 :: a19 :: a20 :: a21 :: some (.int x) :: t) pc st := by
  subst hq
  subst hv
  intro p e s m args below meth c r0 r H locs ls hC hZ hW hR hlo hls
  obtain ⟨k9, hk9⟩ := List.getElem?_of_mem (gP_mem.mpr ⟨.int x, rfl, rfl⟩ : (22, Value.int x) ∈ gP r (a0 :: a1 :: a2 :: a3 :: a4 :: a5 :: a6 :: a7 :: a8 :: a9 :: a10 :: a11 :: a12 :: a13 :: a14 :: a15 :: a16 :: a17 :: a18 :: a19 :: a20 :: a21 :: some (.int x) :: t))
  exact lv_iinc hC.1 hC.2.1 d hls.1 hk9 rfl hn rfl (fun ls' h' => k p e s m args below meth c r0 r H locs ls' hC hZ hW hR hlo (gH.set (i := 22) (v := .int (x + Int32.ofInt n)) hls.2 rfl h'))
theorem V_il23 (q : Nat) {a0 a1 a2 a3 a4 a5 a6 a7 a8 a9 a10 a11 a12 a13 a14 a15 a16 a17 a18 a19 a20 a21 a22 : Option Value} {t : List (Option Value)} {x : Int32} (d : decode cc pc = .ok (.iload 23, 2)) (hq : pc + 2 = q) (k : V l G y cc nL ret R mc ms Z post L M cells slots (a0 :: a1 :: a2 :: a3 :: a4 :: a5 :: a6 :: a7 :: a8 :: a9 :: a10 :: a11 :: a12 :: a13 :: a14 :: a15 :: a16 :: a17 :: a18 :: a19 :: a20 :: a21 :: a22 :: some (.int x) :: t) q (.int x :: st)) : V l G y cc nL ret R mc ms Z post L M cells slots (a0 :: a1 :: a2 :: a3 :: a4 :: a5 :: a6 :: a7 :: a8 :: a9 :: a10 :: a11 :: a12 :: a13 :: a14 :: a15 :: a16 :: a17 :: a18 :: a19 :: a20 :: a21 :: a22 :: some (.int x) :: t) pc (st) := by
  subst hq
  intro p e s m args below meth c r0 r H locs ls hC hZ hW hR hlo hls
  exact lv_iload hC.1 hC.2.1 d (hls.at (i := 23) rfl) (k p e s m args below meth c r0 r H locs ls hC hZ hW hR hlo hls)
theorem V_al23 (q : Nat) {a0 a1 a2 a3 a4 a5 a6 a7 a8 a9 a10 a11 a12 a13 a14 a15 a16 a17 a18 a19 a20 a21 a22 : Option Value} {t : List (Option Value)} {x : Nat} (d : decode cc pc = .ok (.aload 23, 2)) (hq : pc + 2 = q) (k : V l G y cc nL ret R mc ms Z post L M cells slots (a0 :: a1 :: a2 :: a3 :: a4 :: a5 :: a6 :: a7 :: a8 :: a9 :: a10 :: a11 :: a12 :: a13 :: a14 :: a15 :: a16 :: a17 :: a18 :: a19 :: a20 :: a21 :: a22 :: some (.ref x) :: t) q (.ref x :: st)) : V l G y cc nL ret R mc ms Z post L M cells slots (a0 :: a1 :: a2 :: a3 :: a4 :: a5 :: a6 :: a7 :: a8 :: a9 :: a10 :: a11 :: a12 :: a13 :: a14 :: a15 :: a16 :: a17 :: a18 :: a19 :: a20 :: a21 :: a22 :: some (.ref x) :: t) pc (st) := by
  subst hq
  intro p e s m args below meth c r0 r H locs ls hC hZ hW hR hlo hls
  exact lv_aload hC.1 hC.2.1 d (hls.at (i := 23) rfl) (k p e s m args below meth c r0 r H locs ls hC hZ hW hR hlo hls)
theorem V_an23 (q : Nat) {a0 a1 a2 a3 a4 a5 a6 a7 a8 a9 a10 a11 a12 a13 a14 a15 a16 a17 a18 a19 a20 a21 a22 : Option Value} {t : List (Option Value)}  (d : decode cc pc = .ok (.aload 23, 2)) (hq : pc + 2 = q) (k : V l G y cc nL ret R mc ms Z post L M cells slots (a0 :: a1 :: a2 :: a3 :: a4 :: a5 :: a6 :: a7 :: a8 :: a9 :: a10 :: a11 :: a12 :: a13 :: a14 :: a15 :: a16 :: a17 :: a18 :: a19 :: a20 :: a21 :: a22 :: some (.null) :: t) q (.null :: st)) : V l G y cc nL ret R mc ms Z post L M cells slots (a0 :: a1 :: a2 :: a3 :: a4 :: a5 :: a6 :: a7 :: a8 :: a9 :: a10 :: a11 :: a12 :: a13 :: a14 :: a15 :: a16 :: a17 :: a18 :: a19 :: a20 :: a21 :: a22 :: some (.null) :: t) pc (st) := by
  subst hq
  intro p e s m args below meth c r0 r H locs ls hC hZ hW hR hlo hls
  exact lv_aloadN hC.1 hC.2.1 d (hls.at (i := 23) rfl) (k p e s m args below meth c r0 r H locs ls hC hZ hW hR hlo hls)
theorem V_is23 (q : Nat) {a0 a1 a2 a3 a4 a5 a6 a7 a8 a9 a10 a11 a12 a13 a14 a15 a16 a17 a18 a19 a20 a21 a22 b : Option Value} {t : List (Option Value)} {x : Int32} (d : decode cc pc = .ok (.istore 23, 2)) (hn : 23 < nL) (hq : pc + 2 = q) (k : V l G y cc nL ret R mc ms Z post L M cells slots (a0 :: a1 :: a2 :: a3 :: a4 :: a5 :: a6 :: a7 :: a8 :: a9 :: a10 :: a11 :: a12 :: a13 :: a14 :: a15 :: a16 :: a17 :: a18 :: a19 :: a20 :: a21 :: a22 :: some (.int x) :: t) q st) : V l G y cc nL ret R mc ms Z post L M cells slots (a0 :: a1 :: a2 :: a3 :: a4 :: a5 :: a6 :: a7 :: a8 :: a9 :: a10 :: a11 :: a12 :: a13 :: a14 :: a15 :: a16 :: a17 :: a18 :: a19 :: a20 :: a21 :: a22 :: b :: t) pc (.int x :: st) := by
  subst hq
  intro p e s m args below meth c r0 r H locs ls hC hZ hW hR hlo hls
  exact lv_istore hC.1 hC.2.1 d hls.1 hn rfl (fun ls' h' => k p e s m args below meth c r0 r H locs ls' hC hZ hW hR hlo (gH.set (i := 23) (v := .int x) hls.2 rfl h'))
theorem V_as23 (q : Nat) {a0 a1 a2 a3 a4 a5 a6 a7 a8 a9 a10 a11 a12 a13 a14 a15 a16 a17 a18 a19 a20 a21 a22 b : Option Value} {t : List (Option Value)} {x : Nat} (d : decode cc pc = .ok (.astore 23, 2)) (hn : 23 < nL) (hq : pc + 2 = q) (k : V l G y cc nL ret R mc ms Z post L M cells slots (a0 :: a1 :: a2 :: a3 :: a4 :: a5 :: a6 :: a7 :: a8 :: a9 :: a10 :: a11 :: a12 :: a13 :: a14 :: a15 :: a16 :: a17 :: a18 :: a19 :: a20 :: a21 :: a22 :: some (.ref x) :: t) q st) : V l G y cc nL ret R mc ms Z post L M cells slots (a0 :: a1 :: a2 :: a3 :: a4 :: a5 :: a6 :: a7 :: a8 :: a9 :: a10 :: a11 :: a12 :: a13 :: a14 :: a15 :: a16 :: a17 :: a18 :: a19 :: a20 :: a21 :: a22 :: b :: t) pc (.ref x :: st) := by
  subst hq
  intro p e s m args below meth c r0 r H locs ls hC hZ hW hR hlo hls
  exact lv_astore hC.1 hC.2.1 d hls.1 hn rfl (fun ls' h' => k p e s m args below meth c r0 r H locs ls' hC hZ hW hR hlo (gH.set (i := 23) (v := .ref x) hls.2 rfl h'))
theorem V_az23 (q : Nat) {a0 a1 a2 a3 a4 a5 a6 a7 a8 a9 a10 a11 a12 a13 a14 a15 a16 a17 a18 a19 a20 a21 a22 b : Option Value} {t : List (Option Value)}  (d : decode cc pc = .ok (.astore 23, 2)) (hn : 23 < nL) (hq : pc + 2 = q) (k : V l G y cc nL ret R mc ms Z post L M cells slots (a0 :: a1 :: a2 :: a3 :: a4 :: a5 :: a6 :: a7 :: a8 :: a9 :: a10 :: a11 :: a12 :: a13 :: a14 :: a15 :: a16 :: a17 :: a18 :: a19 :: a20 :: a21 :: a22 :: some (.null) :: t) q st) : V l G y cc nL ret R mc ms Z post L M cells slots (a0 :: a1 :: a2 :: a3 :: a4 :: a5 :: a6 :: a7 :: a8 :: a9 :: a10 :: a11 :: a12 :: a13 :: a14 :: a15 :: a16 :: a17 :: a18 :: a19 :: a20 :: a21 :: a22 :: b :: t) pc (.null :: st) := by
  subst hq
  intro p e s m args below meth c r0 r H locs ls hC hZ hW hR hlo hls
  exact lv_astoreN hC.1 hC.2.1 d hls.1 hn rfl (fun ls' h' => k p e s m args below meth c r0 r H locs ls' hC hZ hW hR hlo (gH.set (i := 23) (v := .null) hls.2 rfl h'))
theorem V_ii23 (q : Nat) {a0 a1 a2 a3 a4 a5 a6 a7 a8 a9 a10 a11 a12 a13 a14 a15 a16 a17 a18 a19 a20 a21 a22 : Option Value} {t : List (Option Value)} {x v : Int32} {n : Int} (d : decode cc pc = .ok (.iinc 23 n, 3)) (hn : 23 < nL) (hv : Int32.ofInt n = v) (hq : pc + 3 = q) (k : V l G y cc nL ret R mc ms Z post L M cells slots (a0 :: a1 :: a2 :: a3 :: a4 :: a5 :: a6 :: a7 :: a8 :: a9 :: a10 :: a11 :: a12 :: a13 :: a14 :: a15 :: a16 :: a17 :: a18 :: a19 :: a20 :: a21 :: a22 :: some (.int (x + v)) :: t) q st) : V l G y cc nL ret R mc ms Z post L M cells slots (a0 :: a1 :: a2 :: a3 :: a4 :: a5 :: a6 :: a7 :: a8 :: a9 :: a10 :: a11 :: a12 :: a13 :: a14 :: a15 :: a16 :: a17 :: a18 :: a19 :: a20 :: a21 :: a22 :: some (.int x) :: t) pc st := by
  subst hq
  subst hv
  intro p e s m args below meth c r0 r H locs ls hC hZ hW hR hlo hls
  obtain ⟨k9, hk9⟩ := List.getElem?_of_mem (gP_mem.mpr ⟨.int x, rfl, rfl⟩ : (23, Value.int x) ∈ gP r (a0 :: a1 :: a2 :: a3 :: a4 :: a5 :: a6 :: a7 :: a8 :: a9 :: a10 :: a11 :: a12 :: a13 :: a14 :: a15 :: a16 :: a17 :: a18 :: a19 :: a20 :: a21 :: a22 :: some (.int x) :: t))
  exact lv_iinc hC.1 hC.2.1 d hls.1 hk9 rfl hn rfl (fun ls' h' => k p e s m args below meth c r0 r H locs ls' hC hZ hW hR hlo (gH.set (i := 23) (v := .int (x + Int32.ofInt n)) hls.2 rfl h'))
theorem V_il24 (q : Nat) {a0 a1 a2 a3 a4 a5 a6 a7 a8 a9 a10 a11 a12 a13 a14 a15 a16 a17 a18 a19 a20 a21 a22 a23 : Option Value} {t : List (Option Value)} {x : Int32} (d : decode cc pc = .ok (.iload 24, 2)) (hq : pc + 2 = q) (k : V l G y cc nL ret R mc ms Z post L M cells slots (a0 :: a1 :: a2 :: a3 :: a4 :: a5 :: a6 :: a7 :: a8 :: a9 :: a10 :: a11 :: a12 :: a13 :: a14 :: a15 :: a16 :: a17 :: a18 :: a19 :: a20 :: a21 :: a22 :: a23 :: some (.int x) :: t) q (.int x :: st)) : V l G y cc nL ret R mc ms Z post L M cells slots (a0 :: a1 :: a2 :: a3 :: a4 :: a5 :: a6 :: a7 :: a8 :: a9 :: a10 :: a11 :: a12 :: a13 :: a14 :: a15 :: a16 :: a17 :: a18 :: a19 :: a20 :: a21 :: a22 :: a23 :: some (.int x) :: t) pc (st) := by
  subst hq
  intro p e s m args below meth c r0 r H locs ls hC hZ hW hR hlo hls
  exact lv_iload hC.1 hC.2.1 d (hls.at (i := 24) rfl) (k p e s m args below meth c r0 r H locs ls hC hZ hW hR hlo hls)
theorem V_al24 (q : Nat) {a0 a1 a2 a3 a4 a5 a6 a7 a8 a9 a10 a11 a12 a13 a14 a15 a16 a17 a18 a19 a20 a21 a22 a23 : Option Value} {t : List (Option Value)} {x : Nat} (d : decode cc pc = .ok (.aload 24, 2)) (hq : pc + 2 = q) (k : V l G y cc nL ret R mc ms Z post L M cells slots (a0 :: a1 :: a2 :: a3 :: a4 :: a5 :: a6 :: a7 :: a8 :: a9 :: a10 :: a11 :: a12 :: a13 :: a14 :: a15 :: a16 :: a17 :: a18 :: a19 :: a20 :: a21 :: a22 :: a23 :: some (.ref x) :: t) q (.ref x :: st)) : V l G y cc nL ret R mc ms Z post L M cells slots (a0 :: a1 :: a2 :: a3 :: a4 :: a5 :: a6 :: a7 :: a8 :: a9 :: a10 :: a11 :: a12 :: a13 :: a14 :: a15 :: a16 :: a17 :: a18 :: a19 :: a20 :: a21 :: a22 :: a23 :: some (.ref x) :: t) pc (st) := by
  subst hq
  intro p e s m args below meth c r0 r H locs ls hC hZ hW hR hlo hls
  exact lv_aload hC.1 hC.2.1 d (hls.at (i := 24) rfl) (k p e s m args below meth c r0 r H locs ls hC hZ hW hR hlo hls)
theorem V_an24 (q : Nat) {a0 a1 a2 a3 a4 a5 a6 a7 a8 a9 a10 a11 a12 a13 a14 a15 a16 a17 a18 a19 a20 a21 a22 a23 : Option Value} {t : List (Option Value)}  (d : decode cc pc = .ok (.aload 24, 2)) (hq : pc + 2 = q) (k : V l G y cc nL ret R mc ms Z post L M cells slots (a0 :: a1 :: a2 :: a3 :: a4 :: a5 :: a6 :: a7 :: a8 :: a9 :: a10 :: a11 :: a12 :: a13 :: a14 :: a15 :: a16 :: a17 :: a18 :: a19 :: a20 :: a21 :: a22 :: a23 :: some (.null) :: t) q (.null :: st)) : V l G y cc nL ret R mc ms Z post L M cells slots (a0 :: a1 :: a2 :: a3 :: a4 :: a5 :: a6 :: a7 :: a8 :: a9 :: a10 :: a11 :: a12 :: a13 :: a14 :: a15 :: a16 :: a17 :: a18 :: a19 :: a20 :: a21 :: a22 :: a23 :: some (.null) :: t) pc (st) := by
  subst hq
  intro p e s m args below meth c r0 r H locs ls hC hZ hW hR hlo hls
  exact lv_aloadN hC.1 hC.2.1 d (hls.at (i := 24) rfl) (k p e s m args below meth c r0 r H locs ls hC hZ hW hR hlo hls)
theorem V_is24 (q : Nat) {a0 a1 a2 a3 a4 a5 a6 a7 a8 a9 a10 a11 a12 a13 a14 a15 a16 a17 a18 a19 a20 a21 a22 a23 b : Option Value} {t : List (Option Value)} {x : Int32} (d : decode cc pc = .ok (.istore 24, 2)) (hn : 24 < nL) (hq : pc + 2 = q) (k : V l G y cc nL ret R mc ms Z post L M cells slots (a0 :: a1 :: a2 :: a3 :: a4 :: a5 :: a6 :: a7 :: a8 :: a9 :: a10 :: a11 :: a12 :: a13 :: a14 :: a15 :: a16 :: a17 :: a18 :: a19 :: a20 :: a21 :: a22 :: a23 :: some (.int x) :: t) q st) : V l G y cc nL ret R mc ms Z post L M cells slots (a0 :: a1 :: a2 :: a3 :: a4 :: a5 :: a6 :: a7 :: a8 :: a9 :: a10 :: a11 :: a12 :: a13 :: a14 :: a15 :: a16 :: a17 :: a18 :: a19 :: a20 :: a21 :: a22 :: a23 :: b :: t) pc (.int x :: st) := by
  subst hq
  intro p e s m args below meth c r0 r H locs ls hC hZ hW hR hlo hls
  exact lv_istore hC.1 hC.2.1 d hls.1 hn rfl (fun ls' h' => k p e s m args below meth c r0 r H locs ls' hC hZ hW hR hlo (gH.set (i := 24) (v := .int x) hls.2 rfl h'))
theorem V_as24 (q : Nat) {a0 a1 a2 a3 a4 a5 a6 a7 a8 a9 a10 a11 a12 a13 a14 a15 a16 a17 a18 a19 a20 a21 a22 a23 b : Option Value} {t : List (Option Value)} {x : Nat} (d : decode cc pc = .ok (.astore 24, 2)) (hn : 24 < nL) (hq : pc + 2 = q) (k : V l G y cc nL ret R mc ms Z post L M cells slots (a0 :: a1 :: a2 :: a3 :: a4 :: a5 :: a6 :: a7 :: a8 :: a9 :: a10 :: a11 :: a12 :: a13 :: a14 :: a15 :: a16 :: a17 :: a18 :: a19 :: a20 :: a21 :: a22 :: a23 :: some (.ref x) :: t) q st) : V l G y cc nL ret R mc ms Z post L M cells slots (a0 :: a1 :: a2 :: a3 :: a4 :: a5 :: a6 :: a7 :: a8 :: a9 :: a10 :: a11 :: a12 :: a13 :: a14 :: a15 :: a16 :: a17 :: a18 :: a19 :: a20 :: a21 :: a22 :: a23 :: b :: t) pc (.ref x :: st) := by
  subst hq
  intro p e s m args below meth c r0 r H locs ls hC hZ hW hR hlo hls
  exact lv_astore hC.1 hC.2.1 d hls.1 hn rfl (fun ls' h' => k p e s m args below meth c r0 r H locs ls' hC hZ hW hR hlo (gH.set (i := 24) (v := .ref x) hls.2 rfl h'))
theorem V_az24 (q : Nat) {a0 a1 a2 a3 a4 a5 a6 a7 a8 a9 a10 a11 a12 a13 a14 a15 a16 a17 a18 a19 a20 a21 a22 a23 b : Option Value} {t : List (Option Value)}  (d : decode cc pc = .ok (.astore 24, 2)) (hn : 24 < nL) (hq : pc + 2 = q) (k : V l G y cc nL ret R mc ms Z post L M cells slots (a0 :: a1 :: a2 :: a3 :: a4 :: a5 :: a6 :: a7 :: a8 :: a9 :: a10 :: a11 :: a12 :: a13 :: a14 :: a15 :: a16 :: a17 :: a18 :: a19 :: a20 :: a21 :: a22 :: a23 :: some (.null) :: t) q st) : V l G y cc nL ret R mc ms Z post L M cells slots (a0 :: a1 :: a2 :: a3 :: a4 :: a5 :: a6 :: a7 :: a8 :: a9 :: a10 :: a11 :: a12 :: a13 :: a14 :: a15 :: a16 :: a17 :: a18 :: a19 :: a20 :: a21 :: a22 :: a23 :: b :: t) pc (.null :: st) := by
  subst hq
  intro p e s m args below meth c r0 r H locs ls hC hZ hW hR hlo hls
  exact lv_astoreN hC.1 hC.2.1 d hls.1 hn rfl (fun ls' h' => k p e s m args below meth c r0 r H locs ls' hC hZ hW hR hlo (gH.set (i := 24) (v := .null) hls.2 rfl h'))
theorem V_ii24 (q : Nat) {a0 a1 a2 a3 a4 a5 a6 a7 a8 a9 a10 a11 a12 a13 a14 a15 a16 a17 a18 a19 a20 a21 a22 a23 : Option Value} {t : List (Option Value)} {x v : Int32} {n : Int} (d : decode cc pc = .ok (.iinc 24 n, 3)) (hn : 24 < nL) (hv : Int32.ofInt n = v) (hq : pc + 3 = q) (k : V l G y cc nL ret R mc ms Z post L M cells slots (a0 :: a1 :: a2 :: a3 :: a4 :: a5 :: a6 :: a7 :: a8 :: a9 :: a10 :: a11 :: a12 :: a13 :: a14 :: a15 :: a16 :: a17 :: a18 :: a19 :: a20 :: a21 :: a22 :: a23 :: some (.int (x + v)) :: t) q st) : V l G y cc nL ret R mc ms Z post L M cells slots (a0 :: a1 :: a2 :: a3 :: a4 :: a5 :: a6 :: a7 :: a8 :: a9 :: a10 :: a11 :: a12 :: a13 :: a14 :: a15 :: a16 :: a17 :: a18 :: a19 :: a20 :: a21 :: a22 :: a23 :: some (.int x) :: t) pc st := by
  subst hq
  subst hv
  intro p e s m args below meth c r0 r H locs ls hC hZ hW hR hlo hls
  obtain ⟨k9, hk9⟩ := List.getElem?_of_mem (gP_mem.mpr ⟨.int x, rfl, rfl⟩ : (24, Value.int x) ∈ gP r (a0 :: a1 :: a2 :: a3 :: a4 :: a5 :: a6 :: a7 :: a8 :: a9 :: a10 :: a11 :: a12 :: a13 :: a14 :: a15 :: a16 :: a17 :: a18 :: a19 :: a20 :: a21 :: a22 :: a23 :: some (.int x) :: t))
  exact lv_iinc hC.1 hC.2.1 d hls.1 hk9 rfl hn rfl (fun ls' h' => k p e s m args below meth c r0 r H locs ls' hC hZ hW hR hlo (gH.set (i := 24) (v := .int (x + Int32.ofInt n)) hls.2 rfl h'))
theorem V_il25 (q : Nat) {a0 a1 a2 a3 a4 a5 a6 a7 a8 a9 a10 a11 a12 a13 a14 a15 a16 a17 a18 a19 a20 a21 a22 a23 a24 : Option Value} {t : List (Option Value)} {x : Int32} (d : decode cc pc = .ok (.iload 25, 2)) (hq : pc + 2 = q) (k : V l G y cc nL ret R mc ms Z post L M cells slots (a0 :: a1 :: a2 :: a3 :: a4 :: a5 :: a6 :: a7 :: a8 :: a9 :: a10 :: a11 :: a12 :: a13 :: a14 :: a15 :: a16 :: a17 :: a18 :: a19 :: a20 :: a21 :: a22 :: a23 :: a24 :: some (.int x) :: t) q (.int x :: st)) : V l G y cc nL ret R mc ms Z post L M cells slots (a0 :: a1 :: a2 :: a3 :: a4 :: a5 :: a6 :: a7 :: a8 :: a9 :: a10 :: a11 :: a12 :: a13 :: a14 :: a15 :: a16 :: a17 :: a18 :: a19 :: a20 :: a21 :: a22 :: a23 :: a24 :: some (.int x) :: t) pc (st) := by
  subst hq
  intro p e s m args below meth c r0 r H locs ls hC hZ hW hR hlo hls
  exact lv_iload hC.1 hC.2.1 d (hls.at (i := 25) rfl) (k p e s m args below meth c r0 r H locs ls hC hZ hW hR hlo hls)
theorem V_al25 (q : Nat) {a0 a1 a2 a3 a4 a5 a6 a7 a8 a9 a10 a11 a12 a13 a14 a15 a16 a17 a18 a19 a20 a21 a22 a23 a24 : Option Value} {t : List (Option Value)} {x : Nat} (d : decode cc pc = .ok (.aload 25, 2)) (hq : pc + 2 = q) (k : V l G y cc nL ret R mc ms Z post L M cells slots (a0 :: a1 :: a2 :: a3 :: a4 :: a5 :: a6 :: a7 :: a8 :: a9 :: a10 :: a11 :: a12 :: a13 :: a14 :: a15 :: a16 :: a17 :: a18 :: a19 :: a20 :: a21 :: a22 :: a23 :: a24 :: some (.ref x) :: t) q (.ref x :: st)) : V l G y cc nL ret R mc ms Z post L M cells slots (a0 :: a1 :: a2 :: a3 :: a4 :: a5 :: a6 :: a7 :: a8 :: a9 :: a10 :: a11 :: a12 :: a13 :: a14 :: a15 :: a16 :: a17 :: a18 :: a19 :: a20 :: a21 :: a22 :: a23 :: a24 :: some (.ref x) :: t) pc (st) := by
  subst hq
  intro p e s m args below meth c r0 r H locs ls hC hZ hW hR hlo hls
  exact lv_aload hC.1 hC.2.1 d (hls.at (i := 25) rfl) (k p e s m args below meth c r0 r H locs ls hC hZ hW hR hlo hls)
theorem V_an25 (q : Nat) {a0 a1 a2 a3 a4 a5 a6 a7 a8 a9 a10 a11 a12 a13 a14 a15 a16 a17 a18 a19 a20 a21 a22 a23 a24 : Option Value} {t : List (Option Value)}  (d : decode cc pc = .ok (.aload 25, 2)) (hq : pc + 2 = q) (k : V l G y cc nL ret R mc ms Z post L M cells slots (a0 :: a1 :: a2 :: a3 :: a4 :: a5 :: a6 :: a7 :: a8 :: a9 :: a10 :: a11 :: a12 :: a13 :: a14 :: a15 :: a16 :: a17 :: a18 :: a19 :: a20 :: a21 :: a22 :: a23 :: a24 :: some (.null) :: t) q (.null :: st)) : V l G y cc nL ret R mc ms Z post L M cells slots (a0 :: a1 :: a2 :: a3 :: a4 :: a5 :: a6 :: a7 :: a8 :: a9 :: a10 :: a11 :: a12 :: a13 :: a14 :: a15 :: a16 :: a17 :: a18 :: a19 :: a20 :: a21 :: a22 :: a23 :: a24 :: some (.null) :: t) pc (st) := by
  subst hq
  intro p e s m args below meth c r0 r H locs ls hC hZ hW hR hlo hls
  exact lv_aloadN hC.1 hC.2.1 d (hls.at (i := 25) rfl) (k p e s m args below meth c r0 r H locs ls hC hZ hW hR hlo hls)
theorem V_is25 (q : Nat) {a0 a1 a2 a3 a4 a5 a6 a7 a8 a9 a10 a11 a12 a13 a14 a15 a16 a17 a18 a19 a20 a21 a22 a23 a24 b : Option Value} {t : List (Option Value)} {x : Int32} (d : decode cc pc = .ok (.istore 25, 2)) (hn : 25 < nL) (hq : pc + 2 = q) (k : V l G y cc nL ret R mc ms Z post L M cells slots (a0 :: a1 :: a2 :: a3 :: a4 :: a5 :: a6 :: a7 :: a8 :: a9 :: a10 :: a11 :: a12 :: a13 :: a14 :: a15 :: a16 :: a17 :: a18 :: a19 :: a20 :: a21 :: a22 :: a23 :: a24 :: some (.int x) :: t) q st) : V l G y cc nL ret R mc ms Z post L M cells slots (a0 :: a1 :: a2 :: a3 :: a4 :: a5 :: a6 :: a7 :: a8 :: a9 :: a10 :: a11 :: a12 :: a13 :: a14 :: a15 :: a16 :: a17 :: a18 :: a19 :: a20 :: a21 :: a22 :: a23 :: a24 :: b :: t) pc (.int x :: st) := by
  subst hq
  intro p e s m args below meth c r0 r H locs ls hC hZ hW hR hlo hls
  exact lv_istore hC.1 hC.2.1 d hls.1 hn rfl (fun ls' h' => k p e s m args below meth c r0 r H locs ls' hC hZ hW hR hlo (gH.set (i := 25) (v := .int x) hls.2 rfl h'))
theorem V_as25 (q : Nat) {a0 a1 a2 a3 a4 a5 a6 a7 a8 a9 a10 a11 a12 a13 a14 a15 a16 a17 a18 a19 a20 a21 a22 a23 a24 b : Option Value} {t : List (Option Value)} {x : Nat} (d : decode cc pc = .ok (.astore 25, 2)) (hn : 25 < nL) (hq : pc + 2 = q) (k : V l G y cc nL ret R mc ms Z post L M cells slots (a0 :: a1 :: a2 :: a3 :: a4 :: a5 :: a6 :: a7 :: a8 :: a9 :: a10 :: a11 :: a12 :: a13 :: a14 :: a15 :: a16 :: a17 :: a18 :: a19 :: a20 :: a21 :: a22 :: a23 :: a24 :: some (.ref x) :: t) q st) : V l G y cc nL ret R mc ms Z post L M cells slots (a0 :: a1 :: a2 :: a3 :: a4 :: a5 :: a6 :: a7 :: a8 :: a9 :: a10 :: a11 :: a12 :: a13 :: a14 :: a15 :: a16 :: a17 :: a18 :: a19 :: a20 :: a21 :: a22 :: a23 :: a24 :: b :: t) pc (.ref x :: st) := by
  subst hq
  intro p e s m args below meth c r0 r H locs ls hC hZ hW hR hlo hls
  exact lv_astore hC.1 hC.2.1 d hls.1 hn rfl (fun ls' h' => k p e s m args below meth c r0 r H locs ls' hC hZ hW hR hlo (gH.set (i := 25) (v := .ref x) hls.2 rfl h'))
theorem V_az25 (q : Nat) {a0 a1 a2 a3 a4 a5 a6 a7 a8 a9 a10 a11 a12 a13 a14 a15 a16 a17 a18 a19 a20 a21 a22 a23 a24 b : Option Value} {t : List (Option Value)}  (d : decode cc pc = .ok (.astore 25, 2)) (hn : 25 < nL) (hq : pc + 2 = q) (k : V l G y cc nL ret R mc ms Z post L M cells slots (a0 :: a1 :: a2 :: a3 :: a4 :: a5 :: a6 :: a7 :: a8 :: a9 :: a10 :: a11 :: a12 :: a13 :: a14 :: a15 :: a16 :: a17 :: a18 :: a19 :: a20 :: a21 :: a22 :: a23 :: a24 :: some (.null) :: t) q st) : V l G y cc nL ret R mc ms Z post L M cells slots (a0 :: a1 :: a2 :: a3 :: a4 :: a5 :: a6 :: a7 :: a8 :: a9 :: a10 :: a11 :: a12 :: a13 :: a14 :: a15 :: a16 :: a17 :: a18 :: a19 :: a20 :: a21 :: a22 :: a23 :: a24 :: b :: t) pc (.null :: st) := by
  subst hq
  intro p e s m args below meth c r0 r H locs ls hC hZ hW hR hlo hls
  exact lv_astoreN hC.1 hC.2.1 d hls.1 hn rfl (fun ls' h' => k p e s m args below meth c r0 r H locs ls' hC hZ hW hR hlo (gH.set (i := 25) (v := .null) hls.2 rfl h'))
theorem V_ii25 (q : Nat) {a0 a1 a2 a3 a4 a5 a6 a7 a8 a9 a10 a11 a12 a13 a14 a15 a16 a17 a18 a19 a20 a21 a22 a23 a24 : Option Value} {t : List (Option Value)} {x v : Int32} {n : Int} (d : decode cc pc = .ok (.iinc 25 n, 3)) (hn : 25 < nL) (hv : Int32.ofInt n = v) (hq : pc + 3 = q) (k : V l G y cc nL ret R mc ms Z post L M cells slots (a0 :: a1 :: a2 :: a3 :: a4 :: a5 :: a6 :: a7 :: a8 :: a9 :: a10 :: a11 :: a12 :: a13 :: a14 :: a15 :: a16 :: a17 :: a18 :: a19 :: a20 :: a21 :: a22 :: a23 :: a24 :: some (.int (x + v)) :: t) q st) : V l G y cc nL ret R mc ms Z post L M cells slots (a0 :: a1 :: a2 :: a3 :: a4 :: a5 :: a6 :: a7 :: a8 :: a9 :: a10 :: a11 :: a12 :: a13 :: a14 :: a15 :: a16 :: a17 :: a18 :: a19 :: a20 :: a21 :: a22 :: a23 :: a24 :: some (.int x) :: t) pc st := by
  subst hq
  subst hv
  intro p e s m args below meth c r0 r H locs ls hC hZ hW hR hlo hls
  obtain ⟨k9, hk9⟩ := List.getElem?_of_mem (gP_mem.mpr ⟨.int x, rfl, rfl⟩ : (25, Value.int x) ∈ gP r (a0 :: a1 :: a2 :: a3 :: a4 :: a5 :: a6 :: a7 :: a8 :: a9 :: a10 :: a11 :: a12 :: a13 :: a14 :: a15 :: a16 :: a17 :: a18 :: a19 :: a20 :: a21 :: a22 :: a23 :: a24 :: some (.int x) :: t))
  exact lv_iinc hC.1 hC.2.1 d hls.1 hk9 rfl hn rfl (fun ls' h' => k p e s m args below meth c r0 r H locs ls' hC hZ hW hR hlo (gH.set (i := 25) (v := .int (x + Int32.ofInt n)) hls.2 rfl h'))
/-- more room is counted -/
theorem V_widen (k9 n9 : Nat) (h1 : cells ≤ k9) (h2 : slots ≤ n9) (k : V l G y cc nL ret R mc ms Z post L M k9 n9 lv pc st) : V l G y cc nL ret R mc ms Z post L M cells slots lv pc st := by
  intro p e s m args below meth c r0 r H locs ls hC hZ hW hR hlo hls
  exact W.widen h1 h2 (k p e s m args below meth c r0 r H locs ls hC hZ hW hR hlo hls)
end gRows

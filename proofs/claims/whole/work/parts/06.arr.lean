section gArr
variable {l : Launch} {G : gG} {y : MethodName} {cc : ByteArray} {nL : Nat} {ret : Option FieldType} {R : Room} {mc ms : Nat} {Z : Nat → Prop} {post : Option Value → gLy → gMe → Prop} {L : gLy} {M : gMe} {cells slots : Nat} {lv : List (Option Value)} {pc : Nat} {st : List Value}
theorem V_iald (q : Nat) {a n : Nat} {i : Int32} (hL : L a = some (.inl (0, n, none))) (hin : vp_in i n) (d : decode cc pc = .ok (.iaload, 1)) (hq : pc + 1 = q)
    (kk : V l G y cc nL ret R mc ms Z post L M cells slots lv q (.int (M a i.toNatClampNeg) :: st)) : V l G y cc nL ret R mc ms Z post L M cells slots lv pc (.int i :: .ref a :: st) := by
  subst hq
  intro p e s m args below meth c r0 r H locs ls hC hZ hW hR hlo hls
  exact va_iald hC.1 hC.2.1 hW.2.2.1 (gP1 (hR.1 a _ hL).1) 0 0 rfl rfl hin d (kk p e s m args below meth c r0 r H locs ls hC hZ hW hR hlo hls)
/-- by a number -/
theorem V_ialn (q j : Nat) {a n : Nat} {i : Int32} (hL : L a = some (.inl (0, n, none))) (hi : i = nI j) (hj : j < n) (hn : n < 2 ^ 31) (d : decode cc pc = .ok (.iaload, 1)) (hq : pc + 1 = q)
    (kk : V l G y cc nL ret R mc ms Z post L M cells slots lv q (.int (M a j) :: st)) : V l G y cc nL ret R mc ms Z post L M cells slots lv pc (.int i :: .ref a :: st) := by
  subst hi
  refine V_iald q hL (vp_in_nI hj hn) d hq ?_
  rw [nI_clamp (by omega)]
  exact kk
theorem V_zald (q : Nat) {a n : Nat} {i : Int32} (hL : L a = some (.inl (1, n, none))) (hin : vp_in i n) (d : decode cc pc = .ok (.baload, 1)) (hq : pc + 1 = q)
    (kk : V l G y cc nL ret R mc ms Z post L M cells slots lv q (.int (M a i.toNatClampNeg) :: st)) : V l G y cc nL ret R mc ms Z post L M cells slots lv pc (.int i :: .ref a :: st) := by
  subst hq
  intro p e s m args below meth c r0 r H locs ls hC hZ hW hR hlo hls
  exact va_zald hC.1 hC.2.1 hW.2.2.1 (gP1 (hR.1 a _ hL).1) 0 1 rfl rfl hin d (kk p e s m args below meth c r0 r H locs ls hC hZ hW hR hlo hls)
theorem V_zaln (q j : Nat) {a n : Nat} {i : Int32} (hL : L a = some (.inl (1, n, none))) (hi : i = nI j) (hj : j < n) (hn : n < 2 ^ 31) (d : decode cc pc = .ok (.baload, 1)) (hq : pc + 1 = q)
    (kk : V l G y cc nL ret R mc ms Z post L M cells slots lv q (.int (M a j) :: st)) : V l G y cc nL ret R mc ms Z post L M cells slots lv pc (.int i :: .ref a :: st) := by
  subst hi
  refine V_zald q hL (vp_in_nI hj hn) d hq ?_
  rw [nI_clamp (by omega)]
  exact kk
theorem V_laln (q j : Nat) {a n : Nat} {i : Int32} (hL : L a = some (.inl (2, n, some none))) (hi : i = nI j) (hj : j < n) (hn : n < 2 ^ 31) (d : decode cc pc = .ok (.laload, 1)) (hq : pc + 1 = q)
    (kk : V l G y cc nL ret R mc ms Z post L M cells slots lv q (.long (M a j).toInt64 :: st)) : V l G y cc nL ret R mc ms Z post L M cells slots lv pc (.int i :: .ref a :: st) := by
  subst hq
  subst hi
  intro p e s m args below meth c r0 r H locs ls hC hZ hW hR hlo hls
  have h := kk p e s m args below meth c r0 r H locs ls hC hZ hW hR hlo hls
  rw [show M a j = M a (nI j).toNatClampNeg by rw [nI_clamp (by omega)]] at h
  exact va_lald hC.1 hC.2.1 hW.2.2.1 (gP1 (hR.1 a _ hL).1) 0 2 rfl rfl (vp_in_nI hj hn) d h
theorem V_alen (q : Nat) {a n t : Nat} {f : Option (Option (Nat → Option Nat))} {v : Int32} (ty : FieldType) (hL : L a = some (.inl (t, n, f))) (ht : (tyL G.2.1)[t]? = some (G.2.1 t, ty)) (hv : Int32.ofNat n = v) (d : decode cc pc = .ok (.arraylength, 1)) (hq : pc + 1 = q)
    (kk : V l G y cc nL ret R mc ms Z post L M cells slots lv q (.int v :: st)) : V l G y cc nL ret R mc ms Z post L M cells slots lv pc (.ref a :: st) := by
  subst hq
  intro p e s m args below meth c r0 r H locs ls hC hZ hW hR hlo hls
  have h := (hR.1 a _ hL).1
  have k := kk p e s m args below meth c r0 r H locs ls hC hZ hW hR hlo hls
  rcases f with _ | _ | f
  · exact va_alen (x := (n, .inl (M a))) hC.1 hC.2.1 hW.2.2.1 (gP1 h) 0 t rfl ht hv d k
  · exact va_alen (x := (n, .inr (.inl (fun j => (M a j).toInt64)))) hC.1 hC.2.1 hW.2.2.1 (gP1 h) 0 t rfl ht hv d k
  · exact va_alen (x := (n, .inr (.inr (.inr (.inr (fun j => (f j).map r)))))) hC.1 hC.2.1 hW.2.2.1 (gP1 h) 0 t rfl ht hv d k
theorem V_iast (q : Nat) {a n : Nat} {i x : Int32} (hL : L a = some (.inl (0, n, none))) (hin : vp_in i n) (d : decode cc pc = .ok (.iastore, 1)) (hq : pc + 1 = q)
    (kk : V l G y cc nL ret R mc ms Z post L (gst M a i.toNatClampNeg x) cells slots lv q st) : V l G y cc nL ret R mc ms Z post L M cells slots lv pc (.int x :: .int i :: .ref a :: st) := by
  subst hq
  intro p e s m args below meth c r0 r H locs ls hC hZ hW hR hlo hls
  have hcell : H[r a]? = some (arrV (G.2.1 0) n (fun j => .int (M a j))) := (hR.1 a _ hL).1
  refine W.iast hC.1 hC.2.1 hcell ((hW.2.2.1.2 0 _ rfl).1 n (fun j => .int (M a j))) (fun q => by cases q) (by rw [arrV_size]; exact hin) rfl rfl d fun H' e1 z oq => ?_
  refine kk p e s m args below meth c r0 r H' _ ls hC hZ hW (hR.upM hL ?_ z oq) (glo hlo (hR.1 a _ hL).2.1) hls
  show H'[r a]? = some (arrV (G.2.1 0) n (fun j => .int (upd (M a) i.toNatClampNeg x j)))
  rw [e1, arrV_store]
  congr 2
  funext j
  by_cases hj : j = i.toNatClampNeg
  · subst hj; simp [updV, upd]
  · simp [updV, upd, hj]
theorem V_iasn (q j : Nat) {a n : Nat} {i x : Int32} (hL : L a = some (.inl (0, n, none))) (hi : i = nI j) (hj : j < n) (hn : n < 2 ^ 31) (d : decode cc pc = .ok (.iastore, 1)) (hq : pc + 1 = q)
    (kk : V l G y cc nL ret R mc ms Z post L (gst M a j x) cells slots lv q st) : V l G y cc nL ret R mc ms Z post L M cells slots lv pc (.int x :: .int i :: .ref a :: st) := by
  subst hi
  refine V_iast q hL (vp_in_nI hj hn) d hq ?_
  rw [nI_clamp (by omega)]
  exact kk
theorem V_zasn (q j : Nat) {a n : Nat} {i x : Int32} (hL : L a = some (.inl (1, n, none))) (hi : i = nI j) (hj : j < n) (hn : n < 2 ^ 31) (hx : narrow .boolean (.int x) = .int x) (d : decode cc pc = .ok (.bastore, 1)) (hq : pc + 1 = q)
    (kk : V l G y cc nL ret R mc ms Z post L (gst M a j x) cells slots lv q st) : V l G y cc nL ret R mc ms Z post L M cells slots lv pc (.int x :: .int i :: .ref a :: st) := by
  subst hq
  subst hi
  intro p e s m args below meth c r0 r H locs ls hC hZ hW hR hlo hls
  have hcell : H[r a]? = some (arrV (G.2.1 1) n (fun j => .int (M a j))) := (hR.1 a _ hL).1
  refine W.zast hC.1 hC.2.1 hcell ((hW.2.2.1.2 1 _ rfl).1 n (fun j => .int (M a j))) (fun q => by cases q) (by rw [arrV_size]; exact vp_in_nI hj hn) rfl rfl d fun H' e1 z oq => ?_
  refine kk p e s m args below meth c r0 r H' _ ls hC hZ hW (hR.upM hL ?_ z oq) (glo hlo (hR.1 a _ hL).2.1) hls
  show H'[r a]? = some (arrV (G.2.1 1) n (fun i => .int (upd (M a) j x i)))
  rw [e1, arrV_store, hx, nI_clamp (by omega)]
  congr 2
  funext i
  by_cases hj : i = j
  · subst hj; simp [updV, upd]
  · simp [updV, upd, hj]
theorem V_lasn (q j : Nat) (x : Int32) {a n : Nat} {i : Int32} {w : Int64} (hL : L a = some (.inl (2, n, some none))) (hi : i = nI j) (hj : j < n) (hn : n < 2 ^ 31) (hx : w = x.toInt64) (d : decode cc pc = .ok (.lastore, 1)) (hq : pc + 1 = q)
    (kk : V l G y cc nL ret R mc ms Z post L (gst M a j x) cells slots lv q st) : V l G y cc nL ret R mc ms Z post L M cells slots lv pc (.long w :: .int i :: .ref a :: st) := by
  subst hq
  subst hi
  subst hx
  intro p e s m args below meth c r0 r H locs ls hC hZ hW hR hlo hls
  have hcell : H[r a]? = some (arrV (G.2.1 2) n (fun j => .long ((M a j).toInt64))) := (hR.1 a _ hL).1
  refine W.last hC.1 hC.2.1 hcell ((hW.2.2.1.2 2 _ rfl).1 n (fun j => .long ((M a j).toInt64))) (fun q => by cases q) (by rw [arrV_size]; exact vp_in_nI hj hn) rfl rfl d fun H' e1 z oq => ?_
  refine kk p e s m args below meth c r0 r H' _ ls hC hZ hW (hR.upM hL ?_ z oq) (glo hlo (hR.1 a _ hL).2.1) hls
  show H'[r a]? = some (arrV (G.2.1 2) n (fun i => .long ((upd (M a) j x i).toInt64)))
  rw [e1, arrV_store, nI_clamp (by omega)]
  congr 2
  funext i
  by_cases hj : i = j
  · subst hj; simp [updV, upd]
  · simp [updV, upd, hj]
/-- an object out of an array -/
theorem V_aaln (q j b : Nat) {a n t : Nat} {i : Int32} {f : Nat → Option Nat} (C : String) (hL : L a = some (.inl (t, n, some (some f)))) (ht : (tyL G.2.1)[t]? = some (G.2.1 t, .object C)) (hi : i = nI j) (hj : j < n) (hn : n < 2 ^ 31) (hb : f j = some b) (d : decode cc pc = .ok (.aaload, 1)) (hq : pc + 1 = q)
    (kk : V l G y cc nL ret R mc ms Z post L M cells slots lv q (.ref b :: st)) : V l G y cc nL ret R mc ms Z post L M cells slots lv pc (.int i :: .ref a :: st) := by
  subst hq
  subst hi
  intro p e s m args below meth c r0 r H locs ls hC hZ hW hR hlo hls
  have h := kk p e s m args below meth c r0 r H locs ls hC hZ hW hR hlo hls
  refine va_aldq (f := fun j => (f j).map r) hC.1 hC.2.1 hW.2.2.1 (gP1 (hR.1 a _ hL).1) 0 t rfl ht (vp_in_nI hj hn) d ?_
  rw [nI_clamp (by omega), hb]
  exact h
/-- the ends -/
theorem V_vret (hr : ret = none) (d : decode cc pc = .ok (.return_, 1)) (h : post none L M) : V l G y cc nL ret R mc ms Z post L M mc ms lv pc [] := by
  intro p e s m args below meth c r0 r H locs ls hC hZ hW hR hlo hls
  refine gOr (fun t => Or.inl) ?_
  exact W.vret hC.1 hC.2.1 (hC.2.2.1.trans hr) (fun t ht hW' => ⟨none, L, M, r, rfl, ⟨h, fun k hk => by cases hk⟩, hZ, gW.moved hW' hW, by rw [ht]; exact hR⟩) hlo d hC.2.2.2.2.2.1
theorem V_iret {x : Int32} (hr : ret = some .int) (d : decode cc pc = .ok (.ireturn, 1)) (h : post (some (.int x)) L M) : V l G y cc nL ret R mc ms Z post L M mc ms lv pc [.int x] := by
  intro p e s m args below meth c r0 r H locs ls hC hZ hW hR hlo hls
  refine gOr (fun t => Or.inl) ?_
  exact W.iret hC.1 hC.2.1 (hC.2.2.1.trans hr) (fun t ht hW' => ⟨some (.int x), L, M, r, rfl, ⟨h, fun k hk => by cases hk⟩, hZ, gW.moved hW' hW, by rw [ht]; exact hR⟩) hlo d hC.2.2.2.2.2.1
theorem V_zret {x : Int32} {ty : FieldType} (hr : ret = some ty) (hn : narrow ty (.int x) = .int x) (d : decode cc pc = .ok (.ireturn, 1)) (h : post (some (.int x)) L M) : V l G y cc nL ret R mc ms Z post L M mc ms lv pc [.int x] := by
  intro p e s m args below meth c r0 r H locs ls hC hZ hW hR hlo hls
  refine gOr (fun t => Or.inl) ?_
  exact W.zret hC.1 hC.2.1 (hC.2.2.1.trans hr) hn (fun t ht hW' => ⟨some (.int x), L, M, r, rfl, ⟨h, fun k hk => by cases hk⟩, hZ, gW.moved hW' hW, by rw [ht]; exact hR⟩) hlo d hC.2.2.2.2.2.1
theorem V_aret {v : Value} {rt : FieldType} (hr : ret = some rt) (hrt : (∃ n, rt = .object n) ∨ ∃ t, rt = .array t) (hv : v = .null ∨ ∃ a, v = .ref a) (d : decode cc pc = .ok (.areturn, 1)) (h : post (some v) L M) : V l G y cc nL ret R mc ms Z post L M mc ms lv pc [v] := by
  intro p e s m args below meth c r0 r H locs ls hC hZ hW hR hlo hls
  refine gOr (fun t => Or.inl) ?_
  exact W.aret (v := gV r v) hC.1 hC.2.1 (hC.2.2.1.trans hr) hrt (by rcases hv with rfl | ⟨a, rfl⟩ <;> simp [gV]) (fun t ht hW' => ⟨some v, L, M, r, rfl, ⟨h, fun k hk => by rcases hv with rfl | ⟨a, rfl⟩ <;> cases hk⟩, hZ, gW.moved hW' hW, by rw [ht]; exact hR⟩) hlo d hC.2.2.2.2.2.1
/-- another memory, the same -/
theorem V_mem {L' : gLy} {M' : gMe} (hL : L = L') (hM : M = M') (kk : V l G y cc nL ret R mc ms Z post L' M' cells slots lv pc st) : V l G y cc nL ret R mc ms Z post L M cells slots lv pc st := by
  subst hL; subst hM; exact kk
theorem V_m {M' : gMe} (hM : M = M') (kk : V l G y cc nL ret R mc ms Z post L M' cells slots lv pc st) : V l G y cc nL ret R mc ms Z post L M cells slots lv pc st := by
  subst hM; exact kk
/-- another frame, the same -/
theorem V_fr {lv' : List (Option Value)} {st' : List Value} (h1 : lv = lv') (h2 : st = st') (kk : V l G y cc nL ret R mc ms Z post L M cells slots lv' pc st') : V l G y cc nL ret R mc ms Z post L M cells slots lv pc st := by
  subst h1; subst h2; exact kk
/-- fewer locals are remembered -/
theorem V_forget {lv' : List (Option Value)} (h : ∀ (i : Nat) (v : Value), lv'[i]? = some (some v) → lv[i]? = some (some v)) (kk : V l G y cc nL ret R mc ms Z post L M cells slots lv' pc st) : V l G y cc nL ret R mc ms Z post L M cells slots lv pc st := by
  intro p e s m args below meth c r0 r H locs ls hC hZ hW hR hlo hls
  refine kk p e s m args below meth c r0 r H locs ls hC hZ hW hR hlo ⟨⟨hls.1.1, hls.1.2.1, fun q hq => ?_⟩, fun v hv => ?_⟩
  · obtain ⟨v, h1, h2⟩ := gP_mem.mp hq
    exact hls.1.2.2 q (gP_mem.mpr ⟨v, h _ v h1, h2⟩)
  · obtain ⟨i, hi⟩ := List.getElem?_of_mem hv
    exact hls.2 v (List.mem_of_getElem? (h i v hi))
theorem V_drop (a : Nat) (hno : ∀ b k, L b = some k → b ≠ a → ¬ gRf k a) (kk : V l G y cc nL ret R mc ms Z post (va_up L a none) M cells slots lv pc st) : V l G y cc nL ret R mc ms Z post L M cells slots lv pc st := by
  intro p e s m args below meth c r0 r H locs ls hC hZ hW hR hlo hls
  exact kk p e s m args below meth c r0 r H locs ls hC hZ hW (hR.drop hno) hlo hls
end gArr

/-! static tables -/
section gStat
variable {l : Launch} {G : gG} {y : MethodName} {cc : ByteArray} {nL : Nat} {ret : Option FieldType} {R : Room} {mc ms : Nat} {Z : Nat → Prop} {post : Option Value → gLy → gMe → Prop} {L : gLy} {M : gMe} {cells slots : Nat} {lv : List (Option Value)} {pc : Nat} {st : List Value}
theorem V_gets (q i : Nat) {C n ds : String} {index : Nat} (hK : gHe G (fun U => va_Z C n ds (.ref (G.2.2.2.2.1 i)) (fun q => G.2.2.1 ≤ q) U U.heap)) (hi : i < 2) (hl : Cond.fieldLink y.cls index C n ds ∈ TB) (d : decode cc pc = .ok (.getstatic index, 3)) (hq : pc + 3 = q)
    (kk : V l G y cc nL ret R mc ms Z post L M cells slots lv q (.ref i :: st)) : V l G y cc nL ret R mc ms Z post L M cells slots lv pc st := by
  subst hq
  intro p e s m args below meth c r0 r H locs ls hC hZ hW hR hlo hls
  have hz : va_Z C n ds (.ref (G.2.2.2.2.1 i)) (fun q => G.2.2.1 ≤ q) s H := va_Z.moved (u := { s with heap := H }) (U := s) (State.WarmedH.refl s).alike (hK s { s with heap := H } hW.2.2.2.1 (State.WarmedH.refl s) hR.2.2.2.2.1 hR.2.2.2.2.2)
  obtain ⟨cf, kf, fi, f, a, cell, h1, h2, h3, h4, h5, h6, h7, h8⟩ := hz
  refine W.gets hC.1 hC.2.1 hC.2.2.2.2.1 (hW.t hl) h1 h2 h3 h4 h5 (fun e => by rw [e] at h6; cases h6) h7 rfl d ?_
  have h := kk p e s m args below meth c r0 r H locs ls hC hZ hW hR hlo hls
  rw [List.map_cons] at h
  have hr : r i = G.2.2.2.2.1 i := hR.2.2.2.1 i hi
  have e1 : gV r (.ref i) = .ref (G.2.2.2.2.1 i) := by show Value.ref (r i) = _; rw [hr]
  rw [e1] at h
  exact h
theorem V_itab (q j : Nat) {i N : Nat} {f : Nat → Int32} {x : Int32} (hK : gHe G (fun U => va_T .int (G.2.2.2.2.1 i) N (fun j => .int (f j)) (fun q => G.2.2.1 ≤ q) U U.heap)) (hi : i < 2) (hx : x = nI j) (hj : j < N) (hN : N < 2 ^ 31) (d : decode cc pc = .ok (.iaload, 1)) (hq : pc + 1 = q)
    (kk : V l G y cc nL ret R mc ms Z post L M cells slots lv q (.int (f j) :: st)) : V l G y cc nL ret R mc ms Z post L M cells slots lv pc (.int x :: .ref i :: st) := by
  subst hq
  subst hx
  intro p e s m args below meth c r0 r H locs ls hC hZ hW hR hlo hls
  have hz : va_T .int (G.2.2.2.2.1 i) N (fun j => .int (f j)) (fun q => G.2.2.1 ≤ q) s H := va_T.moved (u := { s with heap := H }) (U := s) (State.WarmedH.refl s).alike (hK s { s with heap := H } hW.2.2.2.1 (State.WarmedH.refl s) hR.2.2.2.2.1 hR.2.2.2.2.2)
  obtain ⟨cell, h1, h2, h3, h4, h5, h6, h7⟩ := hz
  have hr : r i = G.2.2.2.2.1 i := hR.2.2.2.1 i hi
  have e1 : (Value.int (nI j) :: Value.ref i :: st).map (gV r) = .int (nI j) :: .ref (G.2.2.2.2.1 i) :: st.map (gV r) := by
    rw [List.map_cons, List.map_cons]
    show Value.int (nI j) :: Value.ref (r i) :: _ = _
    rw [hr]
  rw [e1]
  have hcl : (nI j).toNatClampNeg = j := nI_clamp (by omega)
  exact W.iald hC.1 hC.2.1 h1 h2 h3 (fun h => h.elim (nI_pos (by omega)) (fun h9 => by rw [hcl] at h9; omega)) (by rw [hcl]; exact h6 j hj) (g := F0 m pc ls (.int (nI j) :: .ref (G.2.2.2.2.1 i) :: st.map (gV r))) rfl rfl d (kk p e s m args below meth c r0 r H locs ls hC hZ hW hR hlo hls)
end gStat
def lmT : List Nat := [6, 4, 6, 0, 6, 0, 0, 0, 6, 4, 6, 4, 4, 4, 0, 0]
def lmI (k i : Nat) : Nat := lmT.getD (4 * k + i) 0
/-- what is known of the static tables -/
def gSt (G : gG) : Prop := gHe G (fun U => va_Z "ProofGate$Credential" "LIMITS" "[I" (.ref (G.2.2.2.2.1 1)) (fun q => G.2.2.1 ≤ q) U U.heap) ∧ gHe G (fun U => va_T .int (G.2.2.2.2.1 1) 16 (fun j => .int (nI (lmT.getD j 0))) (fun q => G.2.2.1 ≤ q) U U.heap) ∧ gHe G (fun U => va_Z "java/util/ArrayList" "DEFAULTCAPACITY_EMPTY_ELEMENTDATA" "[Ljava/lang/Object;" (.ref (G.2.2.2.2.1 0)) (fun q => G.2.2.1 ≤ q) U U.heap)
theorem nI_mul (a b : Nat) : nI a * nI b = nI (a * b) := by
  unfold nI
  exact (Int32.ofNat_mul a b).symm
set_option maxRecDepth 100000 in
theorem c_Cr_limit (l : Launch) (G : gG) (L : gLy) (M : gMe) (hs : gSt G) (k i : Nat) (hk : k < 4) (hi : i < 4) : gMet l G y_Cr_limit b_Cr_limit 2 (some FieldType.int) (rmL 1 0 0) [.int (nI k), .int (nI i)] L M gAll (gPo (some (.int (nI (lmI k i)))) L M) 0 0 := by
  refine gMet_of (lv := [some (.int (nI k)), some (.int (nI i))]) (by decide) rfl (Nat.le_of_ble_eq_true rfl) rfl ?_
  refine V_gets 3 1 hs.1 (by decide) ff_Cr_36 d_Cr_limit_0 rfl ?_
  refine V_iconst 4 (v := 4) (by decide) d_Cr_limit_3 rfl ?_
  refine V_il0 5 d_Cr_limit_4 rfl ?_
  refine V_imul 6 d_Cr_limit_5 rfl ?_
  refine V_il1 7 d_Cr_limit_6 rfl ?_
  refine V_iadd 8 d_Cr_limit_7 rfl ?_
  refine V_itab 9 (4 * k + i) hs.2.1 (by decide) (by rw [show (4 : Int32) = nI 4 from rfl, nI_mul, nI_add]) (by omega) (by decide) d_Cr_limit_8 rfl ?_
  exact V_iret rfl d_Cr_limit_9 ⟨rfl, rfl, rfl⟩

/-! the law: a cell of the script -/
theorem V_alenS {l : Launch} {G : gG} {y : MethodName} {cc : ByteArray} {nL : Nat} {ret : Option FieldType} {R : Room} {mc ms : Nat} {Z : Nat → Prop} {post : Option Value → gLy → gMe → Prop} {L : gLy} {M : gMe} {cells slots : Nat} {lv : List (Option Value)} {pc : Nat} {st : List Value} (q : Nat) {i N : Nat} {f : Nat → Value} {ty : FieldType} (hK : gHe G (fun U => va_T ty (G.2.2.2.2.1 i) N f (fun q => G.2.2.1 ≤ q) U U.heap)) (hi : i < 2) (d : decode cc pc = .ok (.arraylength, 1)) (hq : pc + 1 = q)
    (kk : V l G y cc nL ret R mc ms Z post L M cells slots lv q (.int (nI N) :: st)) : V l G y cc nL ret R mc ms Z post L M cells slots lv pc (.ref i :: st) := by
  subst hq
  intro p e s m args below meth c r0 r H locs ls hC hZ hW hR hlo hls
  have hz : va_T ty (G.2.2.2.2.1 i) N f (fun q => G.2.2.1 ≤ q) s H := va_T.moved (u := { s with heap := H }) (U := s) (State.WarmedH.refl s).alike (hK s { s with heap := H } hW.2.2.2.1 (State.WarmedH.refl s) hR.2.2.2.2.1 hR.2.2.2.2.2)
  obtain ⟨cell, h1, h2, h3, h4, h5, h6, h7⟩ := hz
  have hr : r i = G.2.2.2.2.1 i := hR.2.2.2.1 i hi
  have e1 : (Value.ref i :: st).map (gV r) = .ref (G.2.2.2.2.1 i) :: st.map (gV r) := by
    rw [List.map_cons]
    show Value.ref (r i) :: _ = _
    rw [hr]
  rw [e1]
  exact W.alen hC.1 hC.2.1 h1 h2 h5 (g := F0 m pc ls (.ref (G.2.2.2.2.1 i) :: st.map (gV r))) rfl rfl d (kk p e s m args below meth c r0 r H locs ls hC hZ hW hR hlo hls)
/-- the script is known: N ints, f -/
def gSc (G : gG) (N : Nat) (f : Nat → Int32) : Prop := gHe G (fun U => va_T .int (G.2.2.2.2.1 1) N (fun j => .int (f j)) (fun q => G.2.2.1 ≤ q) U U.heap)
set_option maxRecDepth 100000 in
theorem c_Lw_cell (l : Launch) (G : gG) (L : gLy) (M : gMe) {N : Nat} {f : Nat → Int32} (hs : gSc G N f) (hN : N < 2 ^ 31) (k : Nat) (hk : k < 2 ^ 31) : gMet l G y_Lw_cell b_Lw_cell 2 (some FieldType.int) (rmL 1 0 0) [.ref 1, .int (nI k)] L M gAll (gPo (some (.int (if k < N then f k else 0))) L M) 0 0 := by
  refine gMet_of (lv := [some (.ref 1), some (.int (nI k))]) (by decide) rfl (Nat.le_of_ble_eq_true rfl) rfl ?_
  refine V_il1 1 d_Lw_cell_0 rfl ?_
  refine V_al0 2 d_Lw_cell_1 rfl ?_
  refine V_alenS 3 hs (by decide) d_Lw_cell_2 rfl ?_
  refine V_icmp_ge 12 6 d_Lw_cell_3 (by decide) rfl (fun h3 => ?_) (fun h3 => ?_)
  · refine V_iconst 13 (v := 0) (by decide) d_Lw_cell_12 rfl ?_
    exact V_iret rfl d_Lw_cell_13 ⟨by rw [if_neg (Nat.not_lt.mpr ((nI_leI hN hk).mp h3))], rfl, rfl⟩
  · have hlt : k < N := Nat.not_le.mp (fun h => h3 ((nI_leI hN hk).mpr h))
    refine V_al0 7 d_Lw_cell_6 rfl ?_
    refine V_il1 8 d_Lw_cell_7 rfl ?_
    refine V_itab 9 k hs (by decide) rfl hlt hN d_Lw_cell_8 rfl ?_
    refine V_goto 13 d_Lw_cell_9 (by decide) ?_
    exact V_iret rfl d_Lw_cell_13 ⟨by rw [if_pos hlt], rfl, rfl⟩

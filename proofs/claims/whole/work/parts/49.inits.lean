/-! the small constructors -/
set_option maxRecDepth 100000 in
theorem c_Lg_init (l : Launch) (G : gG) (L : gLy) (M : gMe) (a : Nat) : gMet l G y_Lg_init b_Lg_init 1 none (rmL 1 0 0) [.ref a] L M gAll (gPo none L M) 0 0 := by
  refine gMet_of (lv := [some (.ref a)]) (by decide) rfl (Nat.le_of_ble_eq_true rfl) rfl ?_
  refine V_al0 1 d_Lg_init_0 rfl ?_
  refine V_objInit 4 mo_Lg_1 oi_im oi_co (Nat.le_of_ble_eq_true rfl) (Nat.le_of_ble_eq_true rfl) d_Lg_init_1 rfl ?_
  exact V_vret rfl d_Lg_init_4 ⟨rfl, rfl, rfl⟩
set_option maxRecDepth 100000 in
theorem c_Fa_init (l : Launch) (G : gG) (L : gLy) (M : gMe) (a : Nat) : gMet l G y_Fa_init b_Fa_init 1 none (rmL 1 0 0) [.ref a] L M gAll (gPo none L M) 0 0 := by
  refine gMet_of (lv := [some (.ref a)]) (by decide) rfl (Nat.le_of_ble_eq_true rfl) rfl ?_
  refine V_al0 1 d_Fa_init_0 rfl ?_
  refine V_objInit 4 mo_Fa_3 oi_im oi_co (Nat.le_of_ble_eq_true rfl) (Nat.le_of_ble_eq_true rfl) d_Fa_init_1 rfl ?_
  exact V_vret rfl d_Fa_init_4 ⟨rfl, rfl, rfl⟩
set_option maxRecDepth 100000 in
theorem c_Ac_init (l : Launch) (G : gG) (L : gLy) (M : gMe) (a : Nat) : gMet l G y_Ac_init b_Ac_init 1 none (rmL 1 0 0) [.ref a] L M gAll (gPo none L M) 0 0 := by
  refine gMet_of (lv := [some (.ref a)]) (by decide) rfl (Nat.le_of_ble_eq_true rfl) rfl ?_
  refine V_al0 1 d_Ac_init_0 rfl ?_
  refine V_objInit 4 mo_Ac_1 oi_im oi_co (Nat.le_of_ble_eq_true rfl) (Nat.le_of_ble_eq_true rfl) d_Ac_init_1 rfl ?_
  exact V_vret rfl d_Ac_init_4 ⟨rfl, rfl, rfl⟩
set_option maxRecDepth 100000 in
theorem c_Fu_init (l : Launch) (G : gG) (L : gLy) (M : gMe) (a : Nat) (hL : L a = some (.inr (6, [none]))) : gMet l G y_Fu_init b_Fu_init 1 none (rmL 1 0 0) [.ref a] L M gAll (gPo none L (gst M a 0 (-1))) 0 0 := by
  refine gMet_of (lv := [some (.ref a)]) (by decide) rfl (Nat.le_of_ble_eq_true rfl) rfl ?_
  refine V_al0 1 d_Fu_init_0 rfl ?_
  refine V_objInit 4 mo_Fu_1 oi_im oi_co (Nat.le_of_ble_eq_true rfl) (Nat.le_of_ble_eq_true rfl) d_Fu_init_1 rfl ?_
  refine V_al0 5 d_Fu_init_4 rfl ?_
  refine V_iconst 6 (v := (-1)) (by decide) d_Fu_init_5 rfl ?_
  refine V_puti 9 0 hL kc_Fu (by decide) fl_Fu_9 (Or.inl rfl) rfl rfl rfl rfl d_Fu_init_6 rfl ?_
  exact V_vret rfl d_Fu_init_9 ⟨rfl, rfl, rfl⟩
/-- an invokespecial of a constructor that makes nothing -/
theorem V_cI0 {l : Launch} {G : gG} {y : MethodName} {cc : ByteArray} {nL : Nat} {ret : Option FieldType} {R : Room} {mc ms : Nat} {Z : Nat → Prop} {post : Option Value → gLy → gMe → Prop} {L L1 : gLy} {M M1 : gMe} {cells slots : Nat} {lv : List (Option Value)} {pc : Nat} {st : List Value} {y1 : MethodName} {cc1 : ByteArray} {nL1 n1 : Nat} {rm1 : Room} {as : List Value} {index : Nat} (q : Nat) {st0 : List Value} {b : Nat} (hM : gMet l G y1 cc1 nL1 none rm1 (.ref b :: as) L M gAll (gPo none L1 M1) 0 0) (ok : gOK y1 cc1 nL1 none n1) (hl : gMl y.cls index y1) (hk : Cond.instanceMethod y1 ∈ TB) (hnm : y1.name = "<init>") (hrm : gRm R rm1 0 0 nL1) (hn : as.length = n1) (hs0 : st0 = as.reverse ++ .ref b :: st) (hrest : (st.map fun v => v.category).sum ≤ 8) (d : decode cc pc = .ok (.invokespecial index, 3)) (hf : cells ≤ R.cells ∧ slots ≤ R.slots) (hq : pc + 3 = q)
    (kk : V l G y cc nL ret R mc ms Z post L1 M1 cells slots lv q st) : V l G y cc nL ret R mc ms Z post L M cells slots lv pc st0 :=
  V_callI q hM ok hl hk hnm hrm hn hs0 hrest d hf (fun _ _ => trivial) ⟨fun _ _ => trivial, fun _ _ => trivial⟩ hq (fun v L' M' h => by obtain ⟨rfl, rfl, rfl⟩ := h; exact kk)
set_option maxRecDepth 100000 in
theorem c_Ab_init (l : Launch) (G : gG) (L : gLy) (M : gMe) (a : Nat) (e : Value) (hL : L a = some (.inr (0, [some e, none, none]))) : gMet l G y_Ab_init b_Ab_init 1 none (rmL 2 0 0) [.ref a] L M gAll (gPo none L (gst M a 2 0)) 0 0 := by
  refine gMet_of (lv := [some (.ref a)]) (by decide) rfl (Nat.le_of_ble_eq_true rfl) rfl ?_
  refine V_al0 1 d_Ab_init_0 rfl ?_
  refine V_cI0 4 (as := []) (c_Ac_init l G _ _ a) ok_Ac_init ml_Ab_1 im_Ac_init rfl (gRm_ok (by decide) (by decide)) rfl rfl (Nat.le_of_ble_eq_true rfl) d_Ab_init_1 ⟨Nat.le_of_ble_eq_true rfl, Nat.le_of_ble_eq_true rfl⟩ rfl ?_
  refine V_al0 5 d_Ab_init_4 rfl ?_
  refine V_iconst 6 (v := 0) (by decide) d_Ab_init_5 rfl ?_
  refine V_puti 9 2 hL kc_AL (by decide) fl_Ab_7 (Or.inl rfl) rfl rfl rfl rfl d_Ab_init_6 rfl ?_
  exact V_vret rfl d_Ab_init_9 ⟨rfl, rfl, rfl⟩
set_option maxRecDepth 100000 in
theorem c_AL_init (l : Launch) (G : gG) (L : gLy) (M : gMe) (hs : gSt G) (a : Nat) (hL : L a = some (.inr (0, [some .null, none, none]))) : gMet l G y_AL_init b_AL_init 1 none (rmL 3 0 0) [.ref a] L M gAll (gPo none (va_up L a (some (.inr (0, [some (.ref 0), none, none])))) (gst M a 2 0)) 0 0 := by
  refine gMet_of (lv := [some (.ref a)]) (by decide) rfl (Nat.le_of_ble_eq_true rfl) rfl ?_
  refine V_al0 1 d_AL_init_0 rfl ?_
  refine V_cI0 4 (as := []) (c_Ab_init l G _ _ a .null hL) ok_Ab_init ml_AL_1 im_Ab_init rfl (gRm_ok (by decide) (by decide)) rfl rfl (Nat.le_of_ble_eq_true rfl) d_AL_init_1 ⟨Nat.le_of_ble_eq_true rfl, Nat.le_of_ble_eq_true rfl⟩ rfl ?_
  refine V_al0 5 d_AL_init_4 rfl ?_
  refine V_gets 8 0 hs.2.2 (by decide) ff_AL_39 d_AL_init_5 rfl ?_
  refine V_putr 11 0 hL kc_AL (by decide) fl_AL_9 (Or.inl rfl) rfl (fun r => rfl) (fun r => rfl) (by decide) (fun c hc => Or.inl (by cases hc; decide)) d_AL_init_8 rfl ?_
  exact V_vret rfl d_AL_init_11 ⟨rfl, rfl, rfl⟩

/-! ArraysSupport.newLength, where the list is small -/
theorem mx_As9 : Cond.methodLink "jdk/internal/util/ArraysSupport" 194 Lib.Math.max.name ∈ TB := exTb (by decide +kernel)
set_option maxRecDepth 100000 in
theorem c_As_newLength (l : Launch) (G : gG) (L : gLy) (M : gMe) (o g p : Nat) (hg : g ≤ p) (hp : p < 1000) (ho : o < 1000) (h0 : 0 < o) : gMet l G y_As_newLength b_As_newLength 4 (some FieldType.int) (rmL 2 0 0) [.int (nI o), .int (nI g), .int (nI p)] L M gAll (gPo (some (.int (nI (o + p)))) L M) 0 0 := by
  refine gMet_of (lv := [some (.int (nI o)), some (.int (nI g)), some (.int (nI p)), none]) (by decide) rfl (Nat.le_of_ble_eq_true rfl) rfl ?_
  refine V_il0 1 d_As_newLength_0 rfl ?_
  refine V_il1 2 d_As_newLength_1 rfl ?_
  refine V_il2 3 d_As_newLength_2 rfl ?_
  refine V_mmax 6 mx_As9 (Nat.le_of_ble_eq_true rfl) (Nat.le_of_ble_eq_true rfl) (Nat.le_of_ble_eq_true rfl) (Nat.le_of_ble_eq_true rfl) d_As_newLength_3 rfl ?_
  refine V_topi (z := nI p) (by
    have h1 : nI g ≤ nI p := nI_le hg (by omega)
    split
    · rfl
    · rename_i h; first | exact absurd h1 h | (exact congrArg nI (by
        have h2 := (nI_leI (by omega) (by omega)).mp (Int32.not_lt.mp h)
        omega))) ?_
  refine V_iadd 7 d_As_newLength_6 rfl ?_
  refine V_topi (nI_add o p) ?_
  refine V_is3 8 d_As_newLength_7 (by decide) rfl ?_
  refine V_iconst 9 (v := 0) (by decide) d_As_newLength_8 rfl ?_
  refine V_il3 10 d_As_newLength_9 rfl ?_
  refine V_icmp_ge 21 13 d_As_newLength_10 (by decide) rfl (fun h9 => absurd h9 (nI_ge (a := 0) (b := o + p) (by omega) (by omega))) (fun _ => ?_)
  refine V_il3 14 d_As_newLength_13 rfl ?_
  refine V_ldc 16 ct_As_200 d_As_newLength_14 rfl ?_
  refine V_icmp_gt 21 19 d_As_newLength_16 (by decide) rfl (fun h9 => absurd h9 (nI_nlt (a := 2147483639) (b := o + p) (by omega) (by decide))) (fun _ => ?_)
  refine V_il3 20 d_As_newLength_19 rfl ?_
  exact V_iret rfl d_As_newLength_20 ⟨rfl, rfl, rfl⟩

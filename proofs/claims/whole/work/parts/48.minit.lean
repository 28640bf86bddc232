/-! the reference is made -/
def fsE0 : List (Option Value) := [none, none, none, none, none, some .null, some .null, some .null, none, none, none, some .null, some .null, some .null, some .null, some .null, some .null, some .null, some .null, some .null, some .null, none, none, some .null, some .null, some .null, some .null, some .null, some .null, some .null, some .null, some .null, some .null, some .null, some .null, some .null, none, none]
def aiM : List Nat := [5, 6, 7, 11, 12, 13, 14, 15, 16, 17, 18, 19, 20, 23, 24, 25, 26, 27, 28, 29, 30, 31, 32, 33, 34, 35]
def fsJ : Nat → List (Option Value)
  | 0 => fsE0
  | j + 1 => (fsJ j).set (aiM.getD j 0) (some (.ref (401 + j)))
theorem fsJ_26 : fsJ 26 = fsM := by decide +kernel
theorem fsJ_len (j : Nat) : (fsJ j).length = 38 := by
  induction j with
  | zero => rfl
  | succ j ih => show ((fsJ j).set _ _).length = 38; rw [List.length_set]; exact ih
def gMi (L M9 : gLy) (M : gMe) (j : Nat) (M' : gMe) : Prop := M9 400 = some (.inr (10, fsJ j)) ∧ (∀ q, q ≠ 400 → (q < 401 ∨ 400 + j < q) → M9 q = L q) ∧ (∀ q, 401 ≤ q → q ≤ 400 + j → M9 q = some (.inl ((szM q).1, (szM q).2, none))) ∧ (∀ q, (q < 401 ∨ 400 + j < q) → M' q = M q) ∧ ∀ q, 401 ≤ q → q ≤ 400 + j → M' q = fun _ => 0
theorem gMi.step {L L' : gLy} {M M' : gMe} {j t N : Nat} (h : gMi L L' M j M') (hs : szM (401 + j) = (t, N)) : gMi L (va_up (va_up L' (401 + j) (some (.inl (t, N, none)))) 400 (some (.inr (10, (fsJ j).set (aiM.getD j 0) (some (.ref (401 + j))))))) M (j + 1) (va_up M' (401 + j) (fun _ => 0)) := by
  obtain ⟨h1, h2, h3, h4, h5⟩ := h
  refine ⟨va_up_self _ _ _, fun q a b => ?_, fun q a b => ?_, fun q a => ?_, fun q a b => ?_⟩
  · rw [va_up_ne _ _ a, va_up_ne _ _ (by omega)]; exact h2 q a (by omega)
  · rw [va_up_ne _ _ (by omega)]
    by_cases e : q = 401 + j
    · subst e; rw [va_up_self, hs]
    · rw [va_up_ne _ _ e]; exact h3 q a (by omega)
  · rw [va_up_ne _ _ (by omega)]; exact h4 q (by omega)
  · by_cases e : q = 401 + j
    · subst e; rw [va_up_self]
    · rw [va_up_ne _ _ e]; exact h5 q a (by omega)
section gMoMake
variable {l : Launch} {G : gG} {R : Room} {mc ms : Nat} {post : Option Value → gLy → gMe → Prop} {L L' : gLy} {M M' : gMe} {cells slots : Nat} {lv : List (Option Value)} {pc : Nat}
theorem V_moA (j N : Nat) {at9 : ArrayType} {t : Nat} {ty : FieldType} {n : Int32} {index : Nat} (hi : gMi L L' M j M') (hj : j < 26) (hLn : L (401 + j) = none) (hsz : szM (401 + j) = (t, N)) (hta : newarray.typeOf at9 = ty) (htl : (tyL G.2.1)[t]? = some (G.2.1 t, ty)) (hprim : ∀ C, ty ≠ .object C) (harr : Cond.arrayClass ty ∈ TB) (hE : ∀ r, ∃ x : vp_A, gE G.2.1 r (.inl (t, N, none)) (fun _ => 0) = .inl (G.2.1 t, x) ∧ vp_cell (G.2.1 t) x = arrV (G.2.1 t) N (fun _ => defaultValue ty)) (hby : N * componentBytes ty ≤ 536870912)
    (hn : n = nI N) (hN : N < 1000) (hlv : ∀ a, some (Value.ref a) ∈ lv → a = 400) (hk : aiM.getD j 0 < 38) (hl : Cond.fieldLink "ProofGateModel" index (T_Mo (aiM.getD j 0)).1 (T_Mo (aiM.getD j 0)).2.1 (T_Mo (aiM.getD j 0)).2.2.1 ∈ TB) (hdec : (T_Mo (aiM.getD j 0)).1 = "ProofGateModel") (hfin : (T_Mo (aiM.getD j 0)).2.2.2 = true) (hnr : ∀ x : Nat, narrow (t_Mo (aiM.getD j 0)) (.ref x) = .ref x) (hft : ∀ x : Nat, fits (t_Mo (aiM.getD j 0)) (.ref x) = true)
    (hcells : cells + 1 ≤ R.cells) (hslots : slots + N ≤ R.slots) (d : decode b_Mo_init pc = .ok (.newarray at9, 2)) (d2 : decode b_Mo_init (pc + 2) = .ok (.putfield index, 3))
    (kk : ∀ L9 M9, gMi L L9 M (j + 1) M9 → V l G y_Mo_init b_Mo_init 2 none R mc ms (fun x => x < 400) post L9 M9 (cells + 1) (slots + N) lv (pc + 5) []) : V l G y_Mo_init b_Mo_init 2 none R mc ms (fun x => x < 400) post L' M' cells slots lv pc [.int n, .ref 400] := by
  subst hn
  have hne : (400 : Nat) ≠ 401 + j := by omega
  refine V_newa (pc + 2) (401 + j) t (atype := at9) (ty := ty) (N := N) (f := none) hta htl hprim harr hE (fun b h => h) (nI_pos (by omega)) (nI_clamp (by omega)) hby ((hi.2.1 _ (by omega) (by omega)).trans hLn) (by omega) (fun h => absurd h (by omega)) ⟨fun x hx => by rw [hlv x hx]; exact hne, fun x hx => ?_⟩ hcells hslots d rfl ?_
  · simp at hx; exact fun h10 => (by have h9 : @Eq Nat x 400 := hx; have h11 : @Eq Nat x (401 + j) := h10; omega)
  have h400 : va_up L' (401 + j) (some (.inl (t, N, none))) 400 = some (.inr (10, fsJ j)) := (va_up_ne _ _ hne).trans hi.1
  refine V_putrF (pc + 2 + 3) (aiM.getD j 0) h400 kc_Mo hk hl rfl hdec hfin (fun r => hnr _) (fun r => hft _) (by rw [fsJ_len]; exact hk) (fun c hc => Or.inr (by cases hc; rw [va_up_self]; exact fun h => by cases h)) d2 rfl ?_
  exact kk _ _ (hi.step hsz)
end gMoMake
def moP (L : gLy) (M : gMe) (s : Int32) : Option Value → gLy → gMe → Prop := fun v L' M' => v = none ∧ gLM L' ∧ (∀ q, q < 400 ∨ 427 ≤ q → L' q = L q) ∧ (∀ q, q < 400 ∨ 427 ≤ q → M' q = M q) ∧ (∀ q, 401 ≤ q → q < 427 → M' q = fun _ => 0) ∧ M' 400 = upd (M 400) 0 s
set_option maxRecDepth 100000 in
set_option maxHeartbeats 4000000 in
theorem c_Mo_init (l : Launch) (G : gG) (L : gLy) (M : gMe) (h4 : L 400 = some (.inr (10, fsE0))) (hno : ∀ q, 401 ≤ q → q < 427 → L q = none) (s : Int32) : gMet l G y_Mo_init b_Mo_init 2 none (rmL 2 26 7347) [.ref 400, .int s] L M (fun x => x < 400) (moP L M s) 26 7347 := by
  refine gMet_of (lv := [some (.ref 400), some (.int s)]) (by decide) rfl (Nat.le_of_ble_eq_true rfl) rfl ?_
  refine V_al0 1 d_Mo_init_0 rfl ?_
  refine V_objInit 4 mo_Mo_1 oi_im oi_co (Nat.le_of_ble_eq_true rfl) (Nat.le_of_ble_eq_true rfl) d_Mo_init_1 rfl ?_
  have hi0 : gMi L L M 0 M := ⟨h4, fun _ _ _ => rfl, fun q a b => absurd b (by omega), fun _ _ => rfl, fun q a b => absurd b (by omega)⟩
  have hlv : ∀ a, some (Value.ref a) ∈ [some (Value.ref 400), some (Value.int s)] → a = 400 := fun a ha => by simpa using ha
  refine V_al0 5 d_Mo_init_4 rfl ?_
  refine V_bipush 7 (v := 6) (by decide) d_Mo_init_5 rfl ?_
  refine V_moA 0 6 (at9 := .boolean) (t := 1) (ty := .boolean) hi0 (by decide) (hno 401 (by decide) (by decide)) rfl rfl rfl (fun C h => by cases h) ac_boolean (fun r => ⟨_, rfl, rfl⟩) (by decide) (by decide) (by decide) hlv (by decide) ff_Mo_7 rfl rfl (fun x => rfl) (fun x => rfl) (Nat.le_of_ble_eq_true rfl) (Nat.le_of_ble_eq_true rfl) d_Mo_init_7 d_Mo_init_9 (fun L1 M1 hi1 => ?_)
  refine V_al0 13 d_Mo_init_12 rfl ?_
  refine V_bipush 15 (v := 6) (by decide) d_Mo_init_13 rfl ?_
  refine V_moA 1 6 (at9 := .int) (t := 0) (ty := .int) hi1 (by decide) (hno 402 (by decide) (by decide)) rfl rfl rfl (fun C h => by cases h) ac_int (fun r => ⟨_, rfl, rfl⟩) (by decide) (by decide) (by decide) hlv (by decide) ff_Mo_13 rfl rfl (fun x => rfl) (fun x => rfl) (Nat.le_of_ble_eq_true rfl) (Nat.le_of_ble_eq_true rfl) d_Mo_init_15 d_Mo_init_17 (fun L2 M2 hi2 => ?_)
  refine V_al0 21 d_Mo_init_20 rfl ?_
  refine V_bipush 23 (v := 6) (by decide) d_Mo_init_21 rfl ?_
  refine V_moA 2 6 (at9 := .int) (t := 0) (ty := .int) hi2 (by decide) (hno 403 (by decide) (by decide)) rfl rfl rfl (fun C h => by cases h) ac_int (fun r => ⟨_, rfl, rfl⟩) (by decide) (by decide) (by decide) hlv (by decide) ff_Mo_17 rfl rfl (fun x => rfl) (fun x => rfl) (Nat.le_of_ble_eq_true rfl) (Nat.le_of_ble_eq_true rfl) d_Mo_init_23 d_Mo_init_25 (fun L3 M3 hi3 => ?_)
  refine V_al0 29 d_Mo_init_28 rfl ?_
  refine V_bipush 31 (v := 25) (by decide) d_Mo_init_29 rfl ?_
  refine V_moA 3 25 (at9 := .int) (t := 0) (ty := .int) hi3 (by decide) (hno 404 (by decide) (by decide)) rfl rfl rfl (fun C h => by cases h) ac_int (fun r => ⟨_, rfl, rfl⟩) (by decide) (by decide) (by decide) hlv (by decide) ff_Mo_20 rfl rfl (fun x => rfl) (fun x => rfl) (Nat.le_of_ble_eq_true rfl) (Nat.le_of_ble_eq_true rfl) d_Mo_init_31 d_Mo_init_33 (fun L4 M4 hi4 => ?_)
  refine V_al0 37 d_Mo_init_36 rfl ?_
  refine V_bipush 39 (v := 25) (by decide) d_Mo_init_37 rfl ?_
  refine V_moA 4 25 (at9 := .int) (t := 0) (ty := .int) hi4 (by decide) (hno 405 (by decide) (by decide)) rfl rfl rfl (fun C h => by cases h) ac_int (fun r => ⟨_, rfl, rfl⟩) (by decide) (by decide) (by decide) hlv (by decide) ff_Mo_23 rfl rfl (fun x => rfl) (fun x => rfl) (Nat.le_of_ble_eq_true rfl) (Nat.le_of_ble_eq_true rfl) d_Mo_init_39 d_Mo_init_41 (fun L5 M5 hi5 => ?_)
  refine V_al0 45 d_Mo_init_44 rfl ?_
  refine V_bipush 47 (v := 25) (by decide) d_Mo_init_45 rfl ?_
  refine V_moA 5 25 (at9 := .int) (t := 0) (ty := .int) hi5 (by decide) (hno 406 (by decide) (by decide)) rfl rfl rfl (fun C h => by cases h) ac_int (fun r => ⟨_, rfl, rfl⟩) (by decide) (by decide) (by decide) hlv (by decide) ff_Mo_26 rfl rfl (fun x => rfl) (fun x => rfl) (Nat.le_of_ble_eq_true rfl) (Nat.le_of_ble_eq_true rfl) d_Mo_init_47 d_Mo_init_49 (fun L6 M6 hi6 => ?_)
  refine V_al0 53 d_Mo_init_52 rfl ?_
  refine V_bipush 55 (v := 25) (by decide) d_Mo_init_53 rfl ?_
  refine V_moA 6 25 (at9 := .int) (t := 0) (ty := .int) hi6 (by decide) (hno 407 (by decide) (by decide)) rfl rfl rfl (fun C h => by cases h) ac_int (fun r => ⟨_, rfl, rfl⟩) (by decide) (by decide) (by decide) hlv (by decide) ff_Mo_29 rfl rfl (fun x => rfl) (fun x => rfl) (Nat.le_of_ble_eq_true rfl) (Nat.le_of_ble_eq_true rfl) d_Mo_init_55 d_Mo_init_57 (fun L7 M7 hi7 => ?_)
  refine V_al0 61 d_Mo_init_60 rfl ?_
  refine V_bipush 63 (v := 25) (by decide) d_Mo_init_61 rfl ?_
  refine V_moA 7 25 (at9 := .int) (t := 0) (ty := .int) hi7 (by decide) (hno 408 (by decide) (by decide)) rfl rfl rfl (fun C h => by cases h) ac_int (fun r => ⟨_, rfl, rfl⟩) (by decide) (by decide) (by decide) hlv (by decide) ff_Mo_32 rfl rfl (fun x => rfl) (fun x => rfl) (Nat.le_of_ble_eq_true rfl) (Nat.le_of_ble_eq_true rfl) d_Mo_init_63 d_Mo_init_65 (fun L8 M8 hi8 => ?_)
  refine V_al0 69 d_Mo_init_68 rfl ?_
  refine V_bipush 71 (v := 25) (by decide) d_Mo_init_69 rfl ?_
  refine V_moA 8 25 (at9 := .int) (t := 0) (ty := .int) hi8 (by decide) (hno 409 (by decide) (by decide)) rfl rfl rfl (fun C h => by cases h) ac_int (fun r => ⟨_, rfl, rfl⟩) (by decide) (by decide) (by decide) hlv (by decide) ff_Mo_35 rfl rfl (fun x => rfl) (fun x => rfl) (Nat.le_of_ble_eq_true rfl) (Nat.le_of_ble_eq_true rfl) d_Mo_init_71 d_Mo_init_73 (fun L9 M9 hi9 => ?_)
  refine V_al0 77 d_Mo_init_76 rfl ?_
  refine V_bipush 79 (v := 25) (by decide) d_Mo_init_77 rfl ?_
  refine V_moA 9 25 (at9 := .int) (t := 0) (ty := .int) hi9 (by decide) (hno 410 (by decide) (by decide)) rfl rfl rfl (fun C h => by cases h) ac_int (fun r => ⟨_, rfl, rfl⟩) (by decide) (by decide) (by decide) hlv (by decide) ff_Mo_38 rfl rfl (fun x => rfl) (fun x => rfl) (Nat.le_of_ble_eq_true rfl) (Nat.le_of_ble_eq_true rfl) d_Mo_init_79 d_Mo_init_81 (fun L10 M10 hi10 => ?_)
  refine V_al0 85 d_Mo_init_84 rfl ?_
  refine V_bipush 87 (v := 25) (by decide) d_Mo_init_85 rfl ?_
  refine V_moA 10 25 (at9 := .int) (t := 0) (ty := .int) hi10 (by decide) (hno 411 (by decide) (by decide)) rfl rfl rfl (fun C h => by cases h) ac_int (fun r => ⟨_, rfl, rfl⟩) (by decide) (by decide) (by decide) hlv (by decide) ff_Mo_41 rfl rfl (fun x => rfl) (fun x => rfl) (Nat.le_of_ble_eq_true rfl) (Nat.le_of_ble_eq_true rfl) d_Mo_init_87 d_Mo_init_89 (fun L11 M11 hi11 => ?_)
  refine V_al0 93 d_Mo_init_92 rfl ?_
  refine V_bipush 95 (v := 25) (by decide) d_Mo_init_93 rfl ?_
  refine V_moA 11 25 (at9 := .boolean) (t := 1) (ty := .boolean) hi11 (by decide) (hno 412 (by decide) (by decide)) rfl rfl rfl (fun C h => by cases h) ac_boolean (fun r => ⟨_, rfl, rfl⟩) (by decide) (by decide) (by decide) hlv (by decide) ff_Mo_44 rfl rfl (fun x => rfl) (fun x => rfl) (Nat.le_of_ble_eq_true rfl) (Nat.le_of_ble_eq_true rfl) d_Mo_init_95 d_Mo_init_97 (fun L12 M12 hi12 => ?_)
  refine V_al0 101 d_Mo_init_100 rfl ?_
  refine V_iconst 102 (v := 4) (by decide) d_Mo_init_101 rfl ?_
  refine V_moA 12 4 (at9 := .int) (t := 0) (ty := .int) hi12 (by decide) (hno 413 (by decide) (by decide)) rfl rfl rfl (fun C h => by cases h) ac_int (fun r => ⟨_, rfl, rfl⟩) (by decide) (by decide) (by decide) hlv (by decide) ff_Mo_47 rfl rfl (fun x => rfl) (fun x => rfl) (Nat.le_of_ble_eq_true rfl) (Nat.le_of_ble_eq_true rfl) d_Mo_init_102 d_Mo_init_104 (fun L13 M13 hi13 => ?_)
  refine V_al0 108 d_Mo_init_107 rfl ?_
  refine V_bipush 110 (v := 40) (by decide) d_Mo_init_108 rfl ?_
  refine V_moA 13 40 (at9 := .int) (t := 0) (ty := .int) hi13 (by decide) (hno 414 (by decide) (by decide)) rfl rfl rfl (fun C h => by cases h) ac_int (fun r => ⟨_, rfl, rfl⟩) (by decide) (by decide) (by decide) hlv (by decide) ff_Mo_50 rfl rfl (fun x => rfl) (fun x => rfl) (Nat.le_of_ble_eq_true rfl) (Nat.le_of_ble_eq_true rfl) d_Mo_init_110 d_Mo_init_112 (fun L14 M14 hi14 => ?_)
  refine V_al0 116 d_Mo_init_115 rfl ?_
  refine V_bipush 118 (v := 40) (by decide) d_Mo_init_116 rfl ?_
  refine V_moA 14 40 (at9 := .int) (t := 0) (ty := .int) hi14 (by decide) (hno 415 (by decide) (by decide)) rfl rfl rfl (fun C h => by cases h) ac_int (fun r => ⟨_, rfl, rfl⟩) (by decide) (by decide) (by decide) hlv (by decide) ff_Mo_53 rfl rfl (fun x => rfl) (fun x => rfl) (Nat.le_of_ble_eq_true rfl) (Nat.le_of_ble_eq_true rfl) d_Mo_init_118 d_Mo_init_120 (fun L15 M15 hi15 => ?_)
  refine V_al0 124 d_Mo_init_123 rfl ?_
  refine V_bipush 126 (v := 40) (by decide) d_Mo_init_124 rfl ?_
  refine V_moA 15 40 (at9 := .int) (t := 0) (ty := .int) hi15 (by decide) (hno 416 (by decide) (by decide)) rfl rfl rfl (fun C h => by cases h) ac_int (fun r => ⟨_, rfl, rfl⟩) (by decide) (by decide) (by decide) hlv (by decide) ff_Mo_56 rfl rfl (fun x => rfl) (fun x => rfl) (Nat.le_of_ble_eq_true rfl) (Nat.le_of_ble_eq_true rfl) d_Mo_init_126 d_Mo_init_128 (fun L16 M16 hi16 => ?_)
  refine V_al0 132 d_Mo_init_131 rfl ?_
  refine V_sipush 135 (v := 160) (by decide) d_Mo_init_132 rfl ?_
  refine V_moA 16 160 (at9 := .int) (t := 0) (ty := .int) hi16 (by decide) (hno 417 (by decide) (by decide)) rfl rfl rfl (fun C h => by cases h) ac_int (fun r => ⟨_, rfl, rfl⟩) (by decide) (by decide) (by decide) hlv (by decide) ff_Mo_59 rfl rfl (fun x => rfl) (fun x => rfl) (Nat.le_of_ble_eq_true rfl) (Nat.le_of_ble_eq_true rfl) d_Mo_init_135 d_Mo_init_137 (fun L17 M17 hi17 => ?_)
  refine V_al0 141 d_Mo_init_140 rfl ?_
  refine V_sipush 144 (v := 760) (by decide) d_Mo_init_141 rfl ?_
  refine V_moA 17 760 (at9 := .int) (t := 0) (ty := .int) hi17 (by decide) (hno 418 (by decide) (by decide)) rfl rfl rfl (fun C h => by cases h) ac_int (fun r => ⟨_, rfl, rfl⟩) (by decide) (by decide) (by decide) hlv (by decide) ff_Mo_62 rfl rfl (fun x => rfl) (fun x => rfl) (Nat.le_of_ble_eq_true rfl) (Nat.le_of_ble_eq_true rfl) d_Mo_init_144 d_Mo_init_146 (fun L18 M18 hi18 => ?_)
  refine V_al0 150 d_Mo_init_149 rfl ?_
  refine V_sipush 153 (v := 760) (by decide) d_Mo_init_150 rfl ?_
  refine V_moA 18 760 (at9 := .int) (t := 0) (ty := .int) hi18 (by decide) (hno 419 (by decide) (by decide)) rfl rfl rfl (fun C h => by cases h) ac_int (fun r => ⟨_, rfl, rfl⟩) (by decide) (by decide) (by decide) hlv (by decide) ff_Mo_65 rfl rfl (fun x => rfl) (fun x => rfl) (Nat.le_of_ble_eq_true rfl) (Nat.le_of_ble_eq_true rfl) d_Mo_init_153 d_Mo_init_155 (fun L19 M19 hi19 => ?_)
  refine V_al0 159 d_Mo_init_158 rfl ?_
  refine V_sipush 162 (v := 760) (by decide) d_Mo_init_159 rfl ?_
  refine V_moA 19 760 (at9 := .int) (t := 0) (ty := .int) hi19 (by decide) (hno 420 (by decide) (by decide)) rfl rfl rfl (fun C h => by cases h) ac_int (fun r => ⟨_, rfl, rfl⟩) (by decide) (by decide) (by decide) hlv (by decide) ff_Mo_68 rfl rfl (fun x => rfl) (fun x => rfl) (Nat.le_of_ble_eq_true rfl) (Nat.le_of_ble_eq_true rfl) d_Mo_init_162 d_Mo_init_164 (fun L20 M20 hi20 => ?_)
  refine V_al0 168 d_Mo_init_167 rfl ?_
  refine V_sipush 171 (v := 756) (by decide) d_Mo_init_168 rfl ?_
  refine V_moA 20 756 (at9 := .int) (t := 0) (ty := .int) hi20 (by decide) (hno 421 (by decide) (by decide)) rfl rfl rfl (fun C h => by cases h) ac_int (fun r => ⟨_, rfl, rfl⟩) (by decide) (by decide) (by decide) hlv (by decide) ff_Mo_71 rfl rfl (fun x => rfl) (fun x => rfl) (Nat.le_of_ble_eq_true rfl) (Nat.le_of_ble_eq_true rfl) d_Mo_init_171 d_Mo_init_173 (fun L21 M21 hi21 => ?_)
  refine V_al0 177 d_Mo_init_176 rfl ?_
  refine V_sipush 180 (v := 756) (by decide) d_Mo_init_177 rfl ?_
  refine V_moA 21 756 (at9 := .int) (t := 0) (ty := .int) hi21 (by decide) (hno 422 (by decide) (by decide)) rfl rfl rfl (fun C h => by cases h) ac_int (fun r => ⟨_, rfl, rfl⟩) (by decide) (by decide) (by decide) hlv (by decide) ff_Mo_74 rfl rfl (fun x => rfl) (fun x => rfl) (Nat.le_of_ble_eq_true rfl) (Nat.le_of_ble_eq_true rfl) d_Mo_init_180 d_Mo_init_182 (fun L22 M22 hi22 => ?_)
  refine V_al0 186 d_Mo_init_185 rfl ?_
  refine V_sipush 189 (v := 756) (by decide) d_Mo_init_186 rfl ?_
  refine V_moA 22 756 (at9 := .int) (t := 0) (ty := .int) hi22 (by decide) (hno 423 (by decide) (by decide)) rfl rfl rfl (fun C h => by cases h) ac_int (fun r => ⟨_, rfl, rfl⟩) (by decide) (by decide) (by decide) hlv (by decide) ff_Mo_77 rfl rfl (fun x => rfl) (fun x => rfl) (Nat.le_of_ble_eq_true rfl) (Nat.le_of_ble_eq_true rfl) d_Mo_init_189 d_Mo_init_191 (fun L23 M23 hi23 => ?_)
  refine V_al0 195 d_Mo_init_194 rfl ?_
  refine V_sipush 198 (v := 756) (by decide) d_Mo_init_195 rfl ?_
  refine V_moA 23 756 (at9 := .int) (t := 0) (ty := .int) hi23 (by decide) (hno 424 (by decide) (by decide)) rfl rfl rfl (fun C h => by cases h) ac_int (fun r => ⟨_, rfl, rfl⟩) (by decide) (by decide) (by decide) hlv (by decide) ff_Mo_80 rfl rfl (fun x => rfl) (fun x => rfl) (Nat.le_of_ble_eq_true rfl) (Nat.le_of_ble_eq_true rfl) d_Mo_init_198 d_Mo_init_200 (fun L24 M24 hi24 => ?_)
  refine V_al0 204 d_Mo_init_203 rfl ?_
  refine V_sipush 207 (v := 756) (by decide) d_Mo_init_204 rfl ?_
  refine V_moA 24 756 (at9 := .int) (t := 0) (ty := .int) hi24 (by decide) (hno 425 (by decide) (by decide)) rfl rfl rfl (fun C h => by cases h) ac_int (fun r => ⟨_, rfl, rfl⟩) (by decide) (by decide) (by decide) hlv (by decide) ff_Mo_83 rfl rfl (fun x => rfl) (fun x => rfl) (Nat.le_of_ble_eq_true rfl) (Nat.le_of_ble_eq_true rfl) d_Mo_init_207 d_Mo_init_209 (fun L25 M25 hi25 => ?_)
  refine V_al0 213 d_Mo_init_212 rfl ?_
  refine V_sipush 216 (v := 760) (by decide) d_Mo_init_213 rfl ?_
  refine V_moA 25 760 (at9 := .int) (t := 0) (ty := .int) hi25 (by decide) (hno 426 (by decide) (by decide)) rfl rfl rfl (fun C h => by cases h) ac_int (fun r => ⟨_, rfl, rfl⟩) (by decide) (by decide) (by decide) hlv (by decide) ff_Mo_86 rfl rfl (fun x => rfl) (fun x => rfl) (Nat.le_of_ble_eq_true rfl) (Nat.le_of_ble_eq_true rfl) d_Mo_init_216 d_Mo_init_218 (fun L26 M26 hi26 => ?_)
  refine V_al0 222 d_Mo_init_221 rfl ?_
  refine V_il1 223 d_Mo_init_222 rfl ?_
  refine V_putiF 226 0 hi26.1 kc_Mo (by decide) ff_Mo_89 rfl rfl rfl rfl rfl (by rw [show fsJ (25 + 1) = fsM from fsJ_26]; rfl) d_Mo_init_223 rfl ?_
  refine V_vret rfl d_Mo_init_226 ⟨rfl, ⟨by rw [hi26.1, fsJ_26], fun q a b => hi26.2.2.1 q a (by omega)⟩, fun q a => ?_, fun q a => ?_, fun q a b => ?_, ?_⟩
  · by_cases e4 : q = 400
    · omega
    · exact hi26.2.1 q e4 (by omega)
  · rw [gst_ne _ _ _ _ (by omega)]; exact hi26.2.2.2.1 q (by omega)
  · rw [gst_ne _ _ _ _ (by omega)]; exact hi26.2.2.2.2 q a (by omega)
  · rw [gst_same, hi26.2.2.2.1 400 (by decide)]

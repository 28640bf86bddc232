/-! the reference: the proof is laid out of the reasons -/
/-- how many of the first n -/
def cntB (p : Nat → Bool) : Nat → Nat
  | 0 => 0
  | n + 1 => cntB p n + (if p n = true then 1 else 0)
theorem cntB_le (p : Nat → Bool) : ∀ n, cntB p n ≤ n
  | 0 => Nat.le_refl _
  | n + 1 => by
    have := cntB_le p n
    show cntB p n + (if p n = true then 1 else 0) ≤ n + 1
    split <;> omega
theorem cntB_mono {p q : Nat → Bool} : ∀ n, (∀ i, i < n → q i = true → p i = true) → cntB q n ≤ cntB p n
  | 0, _ => Nat.le_refl _
  | n + 1, h => by
    have h1 := cntB_mono n (fun i hi => h i (by omega))
    show cntB q n + (if q n = true then 1 else 0) ≤ cntB p n + (if p n = true then 1 else 0)
    by_cases hq : q n = true
    · rw [if_pos hq, if_pos (h n (by omega) hq)]; omega
    · rw [if_neg hq]; split <;> omega
theorem cntB_lt {p q : Nat → Bool} : ∀ n, (∀ i, i < n → q i = true → p i = true) → (∃ i, i < n ∧ p i = true ∧ ¬ q i = true) → cntB q n < cntB p n
  | 0, _, h2 => by obtain ⟨i, hi, -⟩ := h2; omega
  | n + 1, h, ⟨i, hi, hp, hq⟩ => by
    show cntB q n + (if q n = true then 1 else 0) < cntB p n + (if p n = true then 1 else 0)
    by_cases hin : i = n
    · subst hin
      have h1 := cntB_mono i (fun j hj => h j (by omega))
      rw [if_neg hq, if_pos hp]; omega
    · have h1 := cntB_lt n (fun j hj => h j (by omega)) ⟨i, by omega, hp, hq⟩
      by_cases hq2 : q n = true
      · rw [if_pos hq2, if_pos (h n (by omega) hq2)]; omega
      · rw [if_neg hq2]; split <;> omega
theorem cntB_eq {p q : Nat → Bool} : ∀ n, (∀ i, i < n → q i = p i) → cntB q n = cntB p n
  | 0, _ => rfl
  | n + 1, h => by
    show cntB q n + (if q n = true then 1 else 0) = cntB p n + (if p n = true then 1 else 0)
    rw [cntB_eq n (fun i hi => h i (by omega)), h n (by omega)]
theorem cntB_up {p q : Nat → Bool} {i : Nat} : ∀ n, i < n → ¬ p i = true → q i = true → (∀ j, j ≠ i → q j = p j) → cntB q n = cntB p n + 1
  | 0, hi, _, _, _ => by omega
  | n + 1, hi, hp, hq, h => by
    show cntB q n + (if q n = true then 1 else 0) = cntB p n + (if p n = true then 1 else 0) + 1
    by_cases hin : i = n
    · subst hin
      rw [cntB_eq i (fun j hj => h j (by omega)), if_pos hq, if_neg hp]
    · rw [cntB_up n (by omega) hp hq h, h n (Ne.symm hin)]; omega
theorem cntB_full {p : Nat → Bool} {i n : Nat} (hi : i < n) (hp : ¬ p i = true) : cntB p n < n := by
  have h := cntB_lt (p := fun _ => true) (q := p) n (fun _ _ _ => rfl) ⟨i, hi, rfl, hp⟩
  have h2 := cntB_le (fun _ => true) n
  omega
-- what is needed next
abbrev nd1 (M : gMe) (f : Nat) : Prop := ¬ M 422 f ≤ 1 ∧ ¬ 7 ≤ M 422 f ∧ ¬ 0 ≤ M 425 (M 423 f).toNatClampNeg
abbrev nd2 (M : gMe) (f : Nat) : Prop := ¬ M 422 f ≤ 1 ∧ ¬ 0 ≤ M 425 (M 424 f).toNatClampNeg
def ndR (M : gMe) (f : Nat) : Int32 := if nd1 M f then M 423 f else if nd2 M f then M 424 f else -1
def mNt (M : gMe) (f n : Nat) : gMe :=
  gst (gst (gst (gst (gst M 425 f (nI n)) 418 n (M 422 f)) 419 n (if M 422 f = 1 ∨ M 422 f = 7 then M 423 f else upd (M 425) f (nI n) (M 423 f).toNatClampNeg)) 420 n (if M 422 f = 1 then 0 else upd (M 425) f (nI n) (M 424 f).toNatClampNeg)) 400 22 (nI (n + 1))
/-- reasons of the facts of S lead to facts of S of lesser rank -/
def gRk (M : gMe) (S : Nat → Prop) (rk : Nat → Nat) : Prop := ∀ f, S f → f < 756 ∧ (¬ M 422 f ≤ 1 → ¬ 7 ≤ M 422 f → ∃ x, M 423 f = nI x ∧ S x ∧ rk x < rk f) ∧ (¬ M 422 f ≤ 1 → ∃ z, M 424 f = nI z ∧ S z ∧ rk z < rk f) ∧ (M 422 f = 1 ∨ ¬ M 422 f ≤ 1) ∧ (M 422 f = 7 ∨ ¬ 7 ≤ M 422 f)
set_option maxRecDepth 100000 in
set_option maxHeartbeats 4000000 in
theorem c_Mo_needed (l : Launch) (G : gG) (L : gLy) (M : gMe) (hM : gLM L) (S : Nat → Prop) (rk : Nat → Nat) (hR : gRk M S rk) (f : Nat) (hS : S f) : gMet l G y_Mo_needed b_Mo_needed 2 (some FieldType.int) (rmL 1 0 0) [.ref 400, .int (nI f)] L M gAll (gPo (some (.int (ndR M f))) L M) 0 0 := by
  obtain ⟨hf, hX, hZ, -, -⟩ := hR f hS
  refine gMet_of (lv := [some (.ref 400), some (.int (nI f))]) (by decide) rfl (Nat.le_of_ble_eq_true rfl) rfl ?_
  refine V_al0 1 d_Mo_needed_0 rfl ?_
  refine V_getr 4 31 (lM hM) kc_Mo (by decide) fl_Mo_74 (Or.inl rfl) rfl d_Mo_needed_1 rfl ?_
  refine V_il1 5 d_Mo_needed_4 rfl ?_
  refine V_ialn 6 (f) (lM422 hM) rfl hf (by decide) d_Mo_needed_5 rfl ?_
  refine V_iconst 7 (v := 1) (by decide) d_Mo_needed_6 rfl ?_
  refine V_icmp_le 42 10 d_Mo_needed_7 (by decide) rfl (fun h7 => ?_) (fun h7 => ?_)
  · refine V_al0 43 d_Mo_needed_42 rfl ?_
    refine V_getr 46 31 (lM hM) kc_Mo (by decide) fl_Mo_74 (Or.inl rfl) rfl d_Mo_needed_43 rfl ?_
    refine V_il1 47 d_Mo_needed_46 rfl ?_
    refine V_ialn 48 (f) (lM422 hM) rfl hf (by decide) d_Mo_needed_47 rfl ?_
    refine V_iconst 49 (v := 1) (by decide) d_Mo_needed_48 rfl ?_
    refine V_icmp_le 75 52 d_Mo_needed_49 (by decide) rfl (fun _ => ?_) (fun h9 => absurd h7 h9)
    refine V_iconst 76 (v := (-1)) (by decide) d_Mo_needed_75 rfl ?_
    exact V_iret rfl d_Mo_needed_76 ⟨by rw [ndR, if_neg (fun h => h.1 h7), if_neg (fun h => h.1 h7)], rfl, rfl⟩
  · refine V_al0 11 d_Mo_needed_10 rfl ?_
    refine V_getr 14 31 (lM hM) kc_Mo (by decide) fl_Mo_74 (Or.inl rfl) rfl d_Mo_needed_11 rfl ?_
    refine V_il1 15 d_Mo_needed_14 rfl ?_
    refine V_ialn 16 (f) (lM422 hM) rfl hf (by decide) d_Mo_needed_15 rfl ?_
    refine V_bipush 18 (v := 7) (by decide) d_Mo_needed_16 rfl ?_
    refine V_icmp_ge 42 21 d_Mo_needed_18 (by decide) rfl (fun h18 => ?_) (fun h18 => ?_)
    · refine V_al0 43 d_Mo_needed_42 rfl ?_
      refine V_getr 46 31 (lM hM) kc_Mo (by decide) fl_Mo_74 (Or.inl rfl) rfl d_Mo_needed_43 rfl ?_
      refine V_il1 47 d_Mo_needed_46 rfl ?_
      refine V_ialn 48 (f) (lM422 hM) rfl hf (by decide) d_Mo_needed_47 rfl ?_
      refine V_iconst 49 (v := 1) (by decide) d_Mo_needed_48 rfl ?_
      refine V_icmp_le 75 52 d_Mo_needed_49 (by decide) rfl (fun h9 => absurd h9 h7) (fun _ => ?_)
      obtain ⟨z, ez, hSz, -⟩ := hZ h7
      have hz := (hR z hSz).1
      have cz : (M 424 f).toNatClampNeg = z := by rw [ez]; exact nI_clamp (by omega)
      refine V_al0 53 d_Mo_needed_52 rfl ?_
      refine V_getr 56 34 (lM hM) kc_Mo (by decide) fl_Mo_83 (Or.inl rfl) rfl d_Mo_needed_53 rfl ?_
      refine V_al0 57 d_Mo_needed_56 rfl ?_
      refine V_getr 60 33 (lM hM) kc_Mo (by decide) fl_Mo_80 (Or.inl rfl) rfl d_Mo_needed_57 rfl ?_
      refine V_il1 61 d_Mo_needed_60 rfl ?_
      refine V_ialn 62 (f) (lM424 hM) rfl hf (by decide) d_Mo_needed_61 rfl ?_
      refine V_ialn 63 (z) (lM425 hM) ez hz (by decide) d_Mo_needed_62 rfl ?_
      refine V_if_ge 75 66 d_Mo_needed_63 (by decide) rfl (fun h63 => ?_) (fun h63 => ?_)
      · refine V_iconst 76 (v := (-1)) (by decide) d_Mo_needed_75 rfl ?_
        exact V_iret rfl d_Mo_needed_76 ⟨by rw [ndR, if_neg (fun h => h.2.1 h18), if_neg (fun h => h.2 (by rw [cz]; exact h63))], rfl, rfl⟩
      · refine V_al0 67 d_Mo_needed_66 rfl ?_
        refine V_getr 70 33 (lM hM) kc_Mo (by decide) fl_Mo_80 (Or.inl rfl) rfl d_Mo_needed_67 rfl ?_
        refine V_il1 71 d_Mo_needed_70 rfl ?_
        refine V_ialn 72 (f) (lM424 hM) rfl hf (by decide) d_Mo_needed_71 rfl ?_
        refine V_goto 76 d_Mo_needed_72 (by decide) ?_
        exact V_iret rfl d_Mo_needed_76 ⟨by rw [ndR, if_neg (fun h => h.2.1 h18), if_pos ⟨h7, by rw [cz]; exact h63⟩], rfl, rfl⟩
    · obtain ⟨x, ex, hSx, -⟩ := hX h7 h18
      have hx := (hR x hSx).1
      have cx : (M 423 f).toNatClampNeg = x := by rw [ex]; exact nI_clamp (by omega)
      refine V_al0 22 d_Mo_needed_21 rfl ?_
      refine V_getr 25 34 (lM hM) kc_Mo (by decide) fl_Mo_83 (Or.inl rfl) rfl d_Mo_needed_22 rfl ?_
      refine V_al0 26 d_Mo_needed_25 rfl ?_
      refine V_getr 29 32 (lM hM) kc_Mo (by decide) fl_Mo_77 (Or.inl rfl) rfl d_Mo_needed_26 rfl ?_
      refine V_il1 30 d_Mo_needed_29 rfl ?_
      refine V_ialn 31 (f) (lM423 hM) rfl hf (by decide) d_Mo_needed_30 rfl ?_
      refine V_ialn 32 (x) (lM425 hM) ex hx (by decide) d_Mo_needed_31 rfl ?_
      refine V_if_ge 42 35 d_Mo_needed_32 (by decide) rfl (fun h32 => ?_) (fun h32 => ?_)
      · refine V_al0 43 d_Mo_needed_42 rfl ?_
        refine V_getr 46 31 (lM hM) kc_Mo (by decide) fl_Mo_74 (Or.inl rfl) rfl d_Mo_needed_43 rfl ?_
        refine V_il1 47 d_Mo_needed_46 rfl ?_
        refine V_ialn 48 (f) (lM422 hM) rfl hf (by decide) d_Mo_needed_47 rfl ?_
        refine V_iconst 49 (v := 1) (by decide) d_Mo_needed_48 rfl ?_
        refine V_icmp_le 75 52 d_Mo_needed_49 (by decide) rfl (fun h9 => absurd h9 h7) (fun _ => ?_)
        obtain ⟨z, ez, hSz, -⟩ := hZ h7
        have hz := (hR z hSz).1
        have cz : (M 424 f).toNatClampNeg = z := by rw [ez]; exact nI_clamp (by omega)
        refine V_al0 53 d_Mo_needed_52 rfl ?_
        refine V_getr 56 34 (lM hM) kc_Mo (by decide) fl_Mo_83 (Or.inl rfl) rfl d_Mo_needed_53 rfl ?_
        refine V_al0 57 d_Mo_needed_56 rfl ?_
        refine V_getr 60 33 (lM hM) kc_Mo (by decide) fl_Mo_80 (Or.inl rfl) rfl d_Mo_needed_57 rfl ?_
        refine V_il1 61 d_Mo_needed_60 rfl ?_
        refine V_ialn 62 (f) (lM424 hM) rfl hf (by decide) d_Mo_needed_61 rfl ?_
        refine V_ialn 63 (z) (lM425 hM) ez hz (by decide) d_Mo_needed_62 rfl ?_
        refine V_if_ge 75 66 d_Mo_needed_63 (by decide) rfl (fun h63 => ?_) (fun h63 => ?_)
        · refine V_iconst 76 (v := (-1)) (by decide) d_Mo_needed_75 rfl ?_
          exact V_iret rfl d_Mo_needed_76 ⟨by rw [ndR, if_neg (fun h => h.2.2 (by rw [cx]; exact h32)), if_neg (fun h => h.2 (by rw [cz]; exact h63))], rfl, rfl⟩
        · refine V_al0 67 d_Mo_needed_66 rfl ?_
          refine V_getr 70 33 (lM hM) kc_Mo (by decide) fl_Mo_80 (Or.inl rfl) rfl d_Mo_needed_67 rfl ?_
          refine V_il1 71 d_Mo_needed_70 rfl ?_
          refine V_ialn 72 (f) (lM424 hM) rfl hf (by decide) d_Mo_needed_71 rfl ?_
          refine V_goto 76 d_Mo_needed_72 (by decide) ?_
          exact V_iret rfl d_Mo_needed_76 ⟨by rw [ndR, if_neg (fun h => h.2.2 (by rw [cx]; exact h32)), if_pos ⟨h7, by rw [cz]; exact h63⟩], rfl, rfl⟩
      · refine V_al0 36 d_Mo_needed_35 rfl ?_
        refine V_getr 39 32 (lM hM) kc_Mo (by decide) fl_Mo_77 (Or.inl rfl) rfl d_Mo_needed_36 rfl ?_
        refine V_il1 40 d_Mo_needed_39 rfl ?_
        refine V_ialn 41 (f) (lM423 hM) rfl hf (by decide) d_Mo_needed_40 rfl ?_
        exact V_iret rfl d_Mo_needed_41 ⟨by rw [ndR, if_pos ⟨h7, h18, by rw [cx]; exact h32⟩], rfl, rfl⟩
set_option maxRecDepth 100000 in
set_option maxHeartbeats 4000000 in
theorem c_Mo_note (l : Launch) (G : gG) (L : gLy) (M : gMe) (hM : gLM L) (S : Nat → Prop) (rk : Nat → Nat) (hR : gRk M S rk) (f : Nat) (hS : S f) (n : Nat) (hn : M 400 22 = nI n) (hn7 : n < 760) (hu : ¬ 0 ≤ M 425 f) : gMet l G y_Mo_note b_Mo_note 2 none (rmL 1 0 0) [.ref 400, .int (nI f)] L M gAll (gPo none L (mNt M f n)) 0 0 := by
  obtain ⟨hf, hX, hZ, h1, h7⟩ := hR f hS
  refine gMet_of (lv := [some (.ref 400), some (.int (nI f))]) (by decide) rfl (Nat.le_of_ble_eq_true rfl) rfl ?_
  refine V_al0 1 d_Mo_note_0 rfl ?_
  refine V_getr 4 34 (lM hM) kc_Mo (by decide) fl_Mo_83 (Or.inl rfl) rfl d_Mo_note_1 rfl ?_
  refine V_il1 5 d_Mo_note_4 rfl ?_
  refine V_ialn 6 (f) (lM425 hM) rfl hf (by decide) d_Mo_note_5 rfl ?_
  refine V_if_lt 10 9 d_Mo_note_6 (by decide) rfl (fun _ => ?_) (fun h9 => absurd (Int32.not_le.mp hu) h9)
  refine V_al0 11 d_Mo_note_10 rfl ?_
  refine V_getr 14 34 (lM hM) kc_Mo (by decide) fl_Mo_83 (Or.inl rfl) rfl d_Mo_note_11 rfl ?_
  refine V_il1 15 d_Mo_note_14 rfl ?_
  refine V_al0 16 d_Mo_note_15 rfl ?_
  refine V_geti 19 22 (lM hM) kc_Mo (by decide) fl_Mo_187 (Or.inl rfl) rfl d_Mo_note_16 rfl ?_
  refine V_topi hn ?_
  refine V_iasn 20 (f) (lM425 hM) rfl hf (by decide) d_Mo_note_19 rfl ?_
  refine V_al0 21 d_Mo_note_20 rfl ?_
  refine V_getr 24 27 (lM hM) kc_Mo (by decide) fl_Mo_62 (Or.inl rfl) rfl d_Mo_note_21 rfl ?_
  refine V_al0 25 d_Mo_note_24 rfl ?_
  refine V_geti 28 22 (lM hM) kc_Mo (by decide) fl_Mo_187 (Or.inl rfl) rfl d_Mo_note_25 rfl ?_
  refine V_al0 29 d_Mo_note_28 rfl ?_
  refine V_getr 32 31 (lM hM) kc_Mo (by decide) fl_Mo_74 (Or.inl rfl) rfl d_Mo_note_29 rfl ?_
  refine V_il1 33 d_Mo_note_32 rfl ?_
  refine V_ialn 34 (f) (lM422 hM) rfl hf (by decide) d_Mo_note_33 rfl ?_
  refine V_topi (z := M 422 f) (by rw [gst_ne _ _ _ _ (by decide)]) ?_
  refine V_iasn 35 (n) (lM418 hM) (by rw [gst_ne _ _ _ _ (by decide)]; exact hn) hn7 (by decide) d_Mo_note_34 rfl ?_
  refine V_al0 36 d_Mo_note_35 rfl ?_
  refine V_getr 39 28 (lM hM) kc_Mo (by decide) fl_Mo_65 (Or.inl rfl) rfl d_Mo_note_36 rfl ?_
  refine V_al0 40 d_Mo_note_39 rfl ?_
  refine V_geti 43 22 (lM hM) kc_Mo (by decide) fl_Mo_187 (Or.inl rfl) rfl d_Mo_note_40 rfl ?_
  refine V_al0 44 d_Mo_note_43 rfl ?_
  refine V_getr 47 31 (lM hM) kc_Mo (by decide) fl_Mo_74 (Or.inl rfl) rfl d_Mo_note_44 rfl ?_
  refine V_il1 48 d_Mo_note_47 rfl ?_
  refine V_ialn 49 (f) (lM422 hM) rfl hf (by decide) d_Mo_note_48 rfl ?_
  refine V_topi (z := M 422 f) (by rw [gst_ne _ _ _ _ (by decide), gst_ne _ _ _ _ (by decide)]) ?_
  refine V_iconst 50 (v := 1) (by decide) d_Mo_note_49 rfl ?_
  refine V_icmp_eq 64 53 d_Mo_note_50 (by decide) rfl (fun h50 => ?_) (fun h50 => ?_)
  · refine V_al0 65 d_Mo_note_64 rfl ?_
    refine V_getr 68 32 (lM hM) kc_Mo (by decide) fl_Mo_77 (Or.inl rfl) rfl d_Mo_note_65 rfl ?_
    refine V_il1 69 d_Mo_note_68 rfl ?_
    refine V_ialn 70 (f) (lM423 hM) rfl hf (by decide) d_Mo_note_69 rfl ?_
    refine V_topi (z := M 423 f) (by rw [gst_ne _ _ _ _ (by decide), gst_ne _ _ _ _ (by decide)]) ?_
    refine V_goto 84 d_Mo_note_70 (by decide) ?_
    refine V_topi (z := if M 422 f = 1 ∨ M 422 f = 7 then M 423 f else upd (M 425) f (nI n) (M 423 f).toNatClampNeg) (by rw [if_pos (Or.inl h50)]) ?_
    refine V_iasn 85 (n) (lM419 hM) (by rw [gst_ne _ _ _ _ (by decide), gst_ne _ _ _ _ (by decide)]; exact hn) hn7 (by decide) d_Mo_note_84 rfl ?_
    refine V_al0 86 d_Mo_note_85 rfl ?_
    refine V_getr 89 29 (lM hM) kc_Mo (by decide) fl_Mo_68 (Or.inl rfl) rfl d_Mo_note_86 rfl ?_
    refine V_al0 90 d_Mo_note_89 rfl ?_
    refine V_geti 93 22 (lM hM) kc_Mo (by decide) fl_Mo_187 (Or.inl rfl) rfl d_Mo_note_90 rfl ?_
    refine V_al0 94 d_Mo_note_93 rfl ?_
    refine V_getr 97 31 (lM hM) kc_Mo (by decide) fl_Mo_74 (Or.inl rfl) rfl d_Mo_note_94 rfl ?_
    refine V_il1 98 d_Mo_note_97 rfl ?_
    refine V_ialn 99 (f) (lM422 hM) rfl hf (by decide) d_Mo_note_98 rfl ?_
    refine V_topi (z := M 422 f) (by rw [gst_ne _ _ _ _ (by decide), gst_ne _ _ _ _ (by decide), gst_ne _ _ _ _ (by decide)]) ?_
    refine V_iconst 100 (v := 1) (by decide) d_Mo_note_99 rfl ?_
    refine V_icmp_ne 107 103 d_Mo_note_100 (by decide) rfl (fun h9 => absurd h9 (not_not_intro h50)) (fun _ => ?_)
    refine V_iconst 104 (v := 0) (by decide) d_Mo_note_103 rfl ?_
    refine V_goto 118 d_Mo_note_104 (by decide) ?_
    refine V_topi (z := if M 422 f = 1 then 0 else upd (M 425) f (nI n) (M 424 f).toNatClampNeg) (by rw [if_pos h50]) ?_
    refine V_iasn 119 (n) (lM420 hM) (by rw [gst_ne _ _ _ _ (by decide), gst_ne _ _ _ _ (by decide), gst_ne _ _ _ _ (by decide)]; exact hn) hn7 (by decide) d_Mo_note_118 rfl ?_
    refine V_al0 120 d_Mo_note_119 rfl ?_
    refine V_dup 121 rfl d_Mo_note_120 rfl ?_
    refine V_geti 124 22 (lM hM) kc_Mo (by decide) fl_Mo_187 (Or.inl rfl) rfl d_Mo_note_121 rfl ?_
    refine V_iconst 125 (v := 1) (by decide) d_Mo_note_124 rfl ?_
    refine V_iadd 126 d_Mo_note_125 rfl ?_
    refine V_topi (z := nI (n + 1)) (by rw [gst_ne _ _ _ _ (by decide), gst_ne _ _ _ _ (by decide), gst_ne _ _ _ _ (by decide), gst_ne _ _ _ _ (by decide), hn, nI_1]) ?_
    refine V_puti 129 22 (lM hM) kc_Mo (by decide) fl_Mo_187 (Or.inl rfl) rfl rfl rfl rfl d_Mo_note_126 rfl ?_
    exact V_vret rfl d_Mo_note_129 ⟨rfl, rfl, rfl⟩
  · refine V_al0 54 d_Mo_note_53 rfl ?_
    refine V_getr 57 31 (lM hM) kc_Mo (by decide) fl_Mo_74 (Or.inl rfl) rfl d_Mo_note_54 rfl ?_
    refine V_il1 58 d_Mo_note_57 rfl ?_
    refine V_ialn 59 (f) (lM422 hM) rfl hf (by decide) d_Mo_note_58 rfl ?_
    refine V_topi (z := M 422 f) (by rw [gst_ne _ _ _ _ (by decide), gst_ne _ _ _ _ (by decide)]) ?_
    refine V_bipush 61 (v := 7) (by decide) d_Mo_note_59 rfl ?_
    refine V_icmp_ne 73 64 d_Mo_note_61 (by decide) rfl (fun h61 => ?_) (fun h61 => ?_)
    · have n1 : ¬ M 422 f ≤ 1 := h1.resolve_left h50
      have n7 : ¬ 7 ≤ M 422 f := h7.resolve_left h61
      obtain ⟨x, ex, hSx, -⟩ := hX n1 n7
      have hx := (hR x hSx).1
      have cx : (M 423 f).toNatClampNeg = x := by rw [ex]; exact nI_clamp (by omega)
      refine V_al0 74 d_Mo_note_73 rfl ?_
      refine V_getr 77 34 (lM hM) kc_Mo (by decide) fl_Mo_83 (Or.inl rfl) rfl d_Mo_note_74 rfl ?_
      refine V_al0 78 d_Mo_note_77 rfl ?_
      refine V_getr 81 32 (lM hM) kc_Mo (by decide) fl_Mo_77 (Or.inl rfl) rfl d_Mo_note_78 rfl ?_
      refine V_il1 82 d_Mo_note_81 rfl ?_
      refine V_ialn 83 (f) (lM423 hM) rfl hf (by decide) d_Mo_note_82 rfl ?_
      refine V_ialn 84 (x) (lM425 hM) (by rw [gst_ne _ _ _ _ (by decide), gst_ne _ _ _ _ (by decide)]; exact ex) hx (by decide) d_Mo_note_83 rfl ?_
      refine V_topi (z := if M 422 f = 1 ∨ M 422 f = 7 then M 423 f else upd (M 425) f (nI n) (M 423 f).toNatClampNeg) (by rw [if_neg (fun h => h.elim h50 h61), cx, gst_ne _ _ _ _ (by decide), gst_same]) ?_
      refine V_iasn 85 (n) (lM419 hM) (by rw [gst_ne _ _ _ _ (by decide), gst_ne _ _ _ _ (by decide)]; exact hn) hn7 (by decide) d_Mo_note_84 rfl ?_
      refine V_al0 86 d_Mo_note_85 rfl ?_
      refine V_getr 89 29 (lM hM) kc_Mo (by decide) fl_Mo_68 (Or.inl rfl) rfl d_Mo_note_86 rfl ?_
      refine V_al0 90 d_Mo_note_89 rfl ?_
      refine V_geti 93 22 (lM hM) kc_Mo (by decide) fl_Mo_187 (Or.inl rfl) rfl d_Mo_note_90 rfl ?_
      refine V_al0 94 d_Mo_note_93 rfl ?_
      refine V_getr 97 31 (lM hM) kc_Mo (by decide) fl_Mo_74 (Or.inl rfl) rfl d_Mo_note_94 rfl ?_
      refine V_il1 98 d_Mo_note_97 rfl ?_
      refine V_ialn 99 (f) (lM422 hM) rfl hf (by decide) d_Mo_note_98 rfl ?_
      refine V_topi (z := M 422 f) (by rw [gst_ne _ _ _ _ (by decide), gst_ne _ _ _ _ (by decide), gst_ne _ _ _ _ (by decide)]) ?_
      refine V_iconst 100 (v := 1) (by decide) d_Mo_note_99 rfl ?_
      refine V_icmp_ne 107 103 d_Mo_note_100 (by decide) rfl (fun _ => ?_) (fun h9 => absurd h9 h50)
      obtain ⟨z, ez, hSz, -⟩ := hZ (h1.resolve_left h50)
      have hz := (hR z hSz).1
      have cz : (M 424 f).toNatClampNeg = z := by rw [ez]; exact nI_clamp (by omega)
      refine V_al0 108 d_Mo_note_107 rfl ?_
      refine V_getr 111 34 (lM hM) kc_Mo (by decide) fl_Mo_83 (Or.inl rfl) rfl d_Mo_note_108 rfl ?_
      refine V_al0 112 d_Mo_note_111 rfl ?_
      refine V_getr 115 33 (lM hM) kc_Mo (by decide) fl_Mo_80 (Or.inl rfl) rfl d_Mo_note_112 rfl ?_
      refine V_il1 116 d_Mo_note_115 rfl ?_
      refine V_ialn 117 (f) (lM424 hM) rfl hf (by decide) d_Mo_note_116 rfl ?_
      refine V_ialn 118 (z) (lM425 hM) (by rw [gst_ne _ _ _ _ (by decide), gst_ne _ _ _ _ (by decide), gst_ne _ _ _ _ (by decide)]; exact ez) hz (by decide) d_Mo_note_117 rfl ?_
      refine V_topi (z := if M 422 f = 1 then 0 else upd (M 425) f (nI n) (M 424 f).toNatClampNeg) (by rw [if_neg h50, cz, gst_ne _ _ _ _ (by decide), gst_ne _ _ _ _ (by decide), gst_same]) ?_
      refine V_iasn 119 (n) (lM420 hM) (by rw [gst_ne _ _ _ _ (by decide), gst_ne _ _ _ _ (by decide), gst_ne _ _ _ _ (by decide)]; exact hn) hn7 (by decide) d_Mo_note_118 rfl ?_
      refine V_al0 120 d_Mo_note_119 rfl ?_
      refine V_dup 121 rfl d_Mo_note_120 rfl ?_
      refine V_geti 124 22 (lM hM) kc_Mo (by decide) fl_Mo_187 (Or.inl rfl) rfl d_Mo_note_121 rfl ?_
      refine V_iconst 125 (v := 1) (by decide) d_Mo_note_124 rfl ?_
      refine V_iadd 126 d_Mo_note_125 rfl ?_
      refine V_topi (z := nI (n + 1)) (by rw [gst_ne _ _ _ _ (by decide), gst_ne _ _ _ _ (by decide), gst_ne _ _ _ _ (by decide), gst_ne _ _ _ _ (by decide), hn, nI_1]) ?_
      refine V_puti 129 22 (lM hM) kc_Mo (by decide) fl_Mo_187 (Or.inl rfl) rfl rfl rfl rfl d_Mo_note_126 rfl ?_
      exact V_vret rfl d_Mo_note_129 ⟨rfl, rfl, rfl⟩
    · refine V_al0 65 d_Mo_note_64 rfl ?_
      refine V_getr 68 32 (lM hM) kc_Mo (by decide) fl_Mo_77 (Or.inl rfl) rfl d_Mo_note_65 rfl ?_
      refine V_il1 69 d_Mo_note_68 rfl ?_
      refine V_ialn 70 (f) (lM423 hM) rfl hf (by decide) d_Mo_note_69 rfl ?_
      refine V_topi (z := M 423 f) (by rw [gst_ne _ _ _ _ (by decide), gst_ne _ _ _ _ (by decide)]) ?_
      refine V_goto 84 d_Mo_note_70 (by decide) ?_
      refine V_topi (z := if M 422 f = 1 ∨ M 422 f = 7 then M 423 f else upd (M 425) f (nI n) (M 423 f).toNatClampNeg) (by rw [if_pos (Or.inr h61)]) ?_
      refine V_iasn 85 (n) (lM419 hM) (by rw [gst_ne _ _ _ _ (by decide), gst_ne _ _ _ _ (by decide)]; exact hn) hn7 (by decide) d_Mo_note_84 rfl ?_
      refine V_al0 86 d_Mo_note_85 rfl ?_
      refine V_getr 89 29 (lM hM) kc_Mo (by decide) fl_Mo_68 (Or.inl rfl) rfl d_Mo_note_86 rfl ?_
      refine V_al0 90 d_Mo_note_89 rfl ?_
      refine V_geti 93 22 (lM hM) kc_Mo (by decide) fl_Mo_187 (Or.inl rfl) rfl d_Mo_note_90 rfl ?_
      refine V_al0 94 d_Mo_note_93 rfl ?_
      refine V_getr 97 31 (lM hM) kc_Mo (by decide) fl_Mo_74 (Or.inl rfl) rfl d_Mo_note_94 rfl ?_
      refine V_il1 98 d_Mo_note_97 rfl ?_
      refine V_ialn 99 (f) (lM422 hM) rfl hf (by decide) d_Mo_note_98 rfl ?_
      refine V_topi (z := M 422 f) (by rw [gst_ne _ _ _ _ (by decide), gst_ne _ _ _ _ (by decide), gst_ne _ _ _ _ (by decide)]) ?_
      refine V_iconst 100 (v := 1) (by decide) d_Mo_note_99 rfl ?_
      refine V_icmp_ne 107 103 d_Mo_note_100 (by decide) rfl (fun _ => ?_) (fun h9 => absurd h9 h50)
      obtain ⟨z, ez, hSz, -⟩ := hZ (h1.resolve_left h50)
      have hz := (hR z hSz).1
      have cz : (M 424 f).toNatClampNeg = z := by rw [ez]; exact nI_clamp (by omega)
      refine V_al0 108 d_Mo_note_107 rfl ?_
      refine V_getr 111 34 (lM hM) kc_Mo (by decide) fl_Mo_83 (Or.inl rfl) rfl d_Mo_note_108 rfl ?_
      refine V_al0 112 d_Mo_note_111 rfl ?_
      refine V_getr 115 33 (lM hM) kc_Mo (by decide) fl_Mo_80 (Or.inl rfl) rfl d_Mo_note_112 rfl ?_
      refine V_il1 116 d_Mo_note_115 rfl ?_
      refine V_ialn 117 (f) (lM424 hM) rfl hf (by decide) d_Mo_note_116 rfl ?_
      refine V_ialn 118 (z) (lM425 hM) (by rw [gst_ne _ _ _ _ (by decide), gst_ne _ _ _ _ (by decide), gst_ne _ _ _ _ (by decide)]; exact ez) hz (by decide) d_Mo_note_117 rfl ?_
      refine V_topi (z := if M 422 f = 1 then 0 else upd (M 425) f (nI n) (M 424 f).toNatClampNeg) (by rw [if_neg h50, cz, gst_ne _ _ _ _ (by decide), gst_ne _ _ _ _ (by decide), gst_same]) ?_
      refine V_iasn 119 (n) (lM420 hM) (by rw [gst_ne _ _ _ _ (by decide), gst_ne _ _ _ _ (by decide), gst_ne _ _ _ _ (by decide)]; exact hn) hn7 (by decide) d_Mo_note_118 rfl ?_
      refine V_al0 120 d_Mo_note_119 rfl ?_
      refine V_dup 121 rfl d_Mo_note_120 rfl ?_
      refine V_geti 124 22 (lM hM) kc_Mo (by decide) fl_Mo_187 (Or.inl rfl) rfl d_Mo_note_121 rfl ?_
      refine V_iconst 125 (v := 1) (by decide) d_Mo_note_124 rfl ?_
      refine V_iadd 126 d_Mo_note_125 rfl ?_
      refine V_topi (z := nI (n + 1)) (by rw [gst_ne _ _ _ _ (by decide), gst_ne _ _ _ _ (by decide), gst_ne _ _ _ _ (by decide), gst_ne _ _ _ _ (by decide), hn, nI_1]) ?_
      refine V_puti 129 22 (lM hM) kc_Mo (by decide) fl_Mo_187 (Or.inl rfl) rfl rfl rfl rfl d_Mo_note_126 rfl ?_
      exact V_vret rfl d_Mo_note_129 ⟨rfl, rfl, rfl⟩

/-! the proof is written: step by step, the depth counted -/
def wsA (M : gMe) (f : Nat) (u x z : Int32) : Int32 × gMe := if M 11 3 < 40 then (1, gst (pfApp M 11 (M 11 3).toNatClampNeg u x z) 19 f (M 11 3)) else (0, gst M 19 f (-1))
def wsR : Nat → gMe → Nat → Int32 × gMe
  | 0, M, f => if ¬ M 19 f < 0 then (1, M) else (0, M)
  | e + 1, M, f =>
    if ¬ M 19 f < 0 then (1, M)
    else if M 16 f = 1 then wsA M f (M 16 f) (M 17 f) (M 18 f)
    else if M 16 f = 7 then
      (if (wsR e M (M 18 f).toNatClampNeg).1 = 0 then (0, (wsR e M (M 18 f).toNatClampNeg).2) else wsA (wsR e M (M 18 f).toNatClampNeg).2 f (M 16 f) (M 17 f) ((wsR e M (M 18 f).toNatClampNeg).2 19 (M 18 f).toNatClampNeg))
    else if (wsR e M (M 17 f).toNatClampNeg).1 = 0 then (0, (wsR e M (M 17 f).toNatClampNeg).2)
    else if (wsR e (wsR e M (M 17 f).toNatClampNeg).2 (M 18 f).toNatClampNeg).1 = 0 then (0, (wsR e (wsR e M (M 17 f).toNatClampNeg).2 (M 18 f).toNatClampNeg).2)
    else wsA (wsR e (wsR e M (M 17 f).toNatClampNeg).2 (M 18 f).toNatClampNeg).2 f (M 16 f) ((wsR e M (M 17 f).toNatClampNeg).2 19 (M 17 f).toNatClampNeg) ((wsR e (wsR e M (M 17 f).toNatClampNeg).2 (M 18 f).toNatClampNeg).2 19 (M 18 f).toNatClampNeg)
/-- the same but in what is written -/
def gWs (M M' : gMe) : Prop := ∀ b, ¬ (11 ≤ b ∧ b < 15) → b ≠ 19 → M' b = M b
theorem gWs.rf {M : gMe} : gWs M M := fun _ _ _ => rfl
theorem gWs.tr {M M1 M2 : gMe} (h : gWs M M1) (h2 : gWs M1 M2) : gWs M M2 := fun b h3 h4 => (h2 b h3 h4).trans (h b h3 h4)
def gW3 (M : gMe) : Prop := ∃ n, n ≤ 40 ∧ M 11 3 = nI n
theorem pfApp_ne {M : gMe} {b n : Nat} {r x z : Int32} {a : Nat} (h : a < b ∨ b + 3 < a) : pfApp M b n r x z a = M a := by
  unfold pfApp
  rw [gst_ne _ _ _ _ (by omega), gst_ne _ _ _ _ (by omega), gst_ne _ _ _ _ (by omega), gst_ne _ _ _ _ (by omega)]
theorem pfApp_len {M : gMe} {b n : Nat} {r x z : Int32} : pfApp M b n r x z b 3 = nI (n + 1) := by
  unfold pfApp
  rw [gst_same]; simp [upd]
theorem wsA_ok {M : gMe} {f n : Nat} {u x z : Int32} (hn : M 11 3 = nI n) (h : n < 40) : wsA M f u x z = (1, gst (pfApp M 11 n u x z) 19 f (nI n)) := by
  unfold wsA
  rw [if_pos (by rw [hn]; exact nI_lt (b := 40) h (by decide)), hn, nI_clamp (by omega)]
theorem wsA_full {M : gMe} {f : Nat} {u x z : Int32} (hn : M 11 3 = nI 40) : wsA M f u x z = (0, gst M 19 f (-1)) := by
  unfold wsA
  rw [if_neg (by rw [hn]; decide)]
theorem wsA_ws {M : gMe} {f : Nat} {u x z : Int32} (h : gW3 M) : gWs M (wsA M f u x z).2 ∧ gW3 (wsA M f u x z).2 := by
  obtain ⟨n, hn, hm⟩ := h
  rcases Nat.lt_or_ge n 40 with h4 | h4
  · rw [wsA_ok hm h4]
    refine ⟨fun b h1 h2 => ?_, n + 1, by omega, ?_⟩
    · show gst _ 19 f _ b = M b
      rw [gst_ne _ _ _ _ h2, pfApp_ne (by omega)]
    · show gst (pfApp M 11 n u x z) 19 f (nI n) 11 3 = nI (n + 1)
      rw [gst_ne _ _ _ _ (by decide)]; exact pfApp_len
  · obtain rfl : n = 40 := by omega
    rw [wsA_full hm]
    refine ⟨fun b h1 h2 => gst_ne _ _ _ _ h2, 40, by omega, ?_⟩
    show gst M 19 f (-1) 11 3 = nI 40
    rw [gst_ne _ _ _ _ (by decide)]; exact hm
theorem wsR_ws : ∀ (e : Nat) (M : gMe) (f : Nat), gW3 M → gWs M (wsR e M f).2 ∧ gW3 (wsR e M f).2
  | 0, M, f, h => by
    rw [wsR]
    split <;> exact ⟨gWs.rf, h⟩
  | e + 1, M, f, h => by
    rw [wsR]
    split
    · exact ⟨gWs.rf, h⟩
    · split
      · exact wsA_ws h
      · split
        · have h1 := wsR_ws e M (M 18 f).toNatClampNeg h
          split
          · exact h1
          · exact ⟨h1.1.tr (wsA_ws h1.2).1, (wsA_ws h1.2).2⟩
        · have h1 := wsR_ws e M (M 17 f).toNatClampNeg h
          have h2 := wsR_ws e (wsR e M (M 17 f).toNatClampNeg).2 (M 18 f).toNatClampNeg h1.2
          split
          · exact h1
          · split
            · exact ⟨h1.1.tr h2.1, h2.2⟩
            · exact ⟨h1.1.tr (h2.1.tr (wsA_ws h2.2).1), (wsA_ws h2.2).2⟩
/-- reasons lead to facts of S alone -/
def gRe (M : gMe) (S : Nat → Prop) : Prop := ∀ f, S f → f < 756 ∧ (¬ M 16 f = 1 → ¬ M 16 f = 7 → ∃ x, M 17 f = nI x ∧ S x) ∧ (¬ M 16 f = 1 → ∃ z, M 18 f = nI z ∧ S z)
theorem gRe.mv {M M' : gMe} {S : Nat → Prop} (h : gRe M S) (hw : gWs M M') : gRe M' S := by
  intro f hf
  obtain ⟨h1, h2, h3⟩ := h f hf
  rw [hw 16 (by decide) (by decide), hw 17 (by decide) (by decide), hw 18 (by decide) (by decide)]
  exact ⟨h1, h2, h3⟩
set_option maxRecDepth 100000 in
set_option maxHeartbeats 4000000 in
theorem c_Pv_writesStep (l : Launch) (G : gG) (L : gLy) (hL : gLC L) (S : Nat → Prop) : ∀ (e k : Nat) (M : gMe) (f : Nat), k + e = 41 → gRe M S → gW3 M → S f → gMet l G y_Pv_writesStep b_Pv_writesStep 6 (some FieldType.boolean) (rmL (e + 2) 0 0) [.ref 10, .int (nI f), .int (nI k)] L M gAll (gPo (some (.int (wsR e M f).1)) L (wsR e M f).2) 0 0 := by
  intro e
  induction e with
  | zero =>
    intro k M f hk hS hw3 hSf
    obtain rfl : k = 41 := by omega
    have hf := (hS f hSf).1
    refine gMet_of (lv := [some (.ref 10), some (.int (nI f)), some (.int (nI 41)), none, none, none]) (by decide) rfl (Nat.le_of_ble_eq_true rfl) rfl ?_
    refine V_al0 1 d_Pv_writesStep_0 rfl ?_
    refine V_getr 4 6 (lC10 hL) kc_Pv (by decide) fl_Pv_31 (Or.inl rfl) rfl d_Pv_writesStep_1 rfl ?_
    refine V_il1 5 d_Pv_writesStep_4 rfl ?_
    refine V_ialn 6 (f) (lC19 hL) rfl hf (by decide) d_Pv_writesStep_5 rfl ?_
    refine V_if_lt 11 9 d_Pv_writesStep_6 (by decide) rfl (fun h6 => ?_) (fun h6 => ?_)
    · refine V_il2 12 d_Pv_writesStep_11 rfl ?_
      refine V_bipush 14 (v := 40) (by decide) d_Pv_writesStep_12 rfl ?_
      refine V_icmp_le 19 17 d_Pv_writesStep_14 (by decide) rfl (fun h9 => absurd h9 (by decide)) (fun _ => ?_)
      refine V_iconst 18 (v := 0) (by decide) d_Pv_writesStep_17 rfl ?_
      exact V_zret rfl rfl d_Pv_writesStep_18 ⟨by rw [wsR, if_neg (not_not_intro h6)], rfl, by rw [wsR, if_neg (not_not_intro h6)]⟩
    · refine V_iconst 10 (v := 1) (by decide) d_Pv_writesStep_9 rfl ?_
      exact V_zret rfl rfl d_Pv_writesStep_10 ⟨by rw [wsR, if_pos h6], rfl, by rw [wsR, if_pos h6]⟩
  | succ e ih =>
    intro k M f hk hS hw3 hSf
    obtain ⟨hf, hX, hY⟩ := hS f hSf
    refine gMet_of (lv := [some (.ref 10), some (.int (nI f)), some (.int (nI k)), none, none, none]) (by decide) rfl (Nat.le_of_ble_eq_true rfl) rfl ?_
    refine V_al0 1 d_Pv_writesStep_0 rfl ?_
    refine V_getr 4 6 (lC10 hL) kc_Pv (by decide) fl_Pv_31 (Or.inl rfl) rfl d_Pv_writesStep_1 rfl ?_
    refine V_il1 5 d_Pv_writesStep_4 rfl ?_
    refine V_ialn 6 (f) (lC19 hL) rfl hf (by decide) d_Pv_writesStep_5 rfl ?_
    refine V_if_lt 11 9 d_Pv_writesStep_6 (by decide) rfl (fun h6 => ?_) (fun h6 => ?_)
    · refine V_il2 12 d_Pv_writesStep_11 rfl ?_
      refine V_bipush 14 (v := 40) (by decide) d_Pv_writesStep_12 rfl ?_
      refine V_icmp_le 19 17 d_Pv_writesStep_14 (by decide) rfl (fun _ => ?_) (fun h9 => absurd (nI_le (b := 40) (by omega) (by decide)) h9)
      refine V_al0 20 d_Pv_writesStep_19 rfl ?_
      refine V_getr 23 3 (lC10 hL) kc_Pv (by decide) fl_Pv_22 (Or.inl rfl) rfl d_Pv_writesStep_20 rfl ?_
      refine V_il1 24 d_Pv_writesStep_23 rfl ?_
      refine V_ialn 25 (f) (lC16 hL) rfl hf (by decide) d_Pv_writesStep_24 rfl ?_
      refine V_is3 26 d_Pv_writesStep_25 (by decide) rfl ?_
      refine V_al0 27 d_Pv_writesStep_26 rfl ?_
      refine V_getr 30 4 (lC10 hL) kc_Pv (by decide) fl_Pv_25 (Or.inl rfl) rfl d_Pv_writesStep_27 rfl ?_
      refine V_il1 31 d_Pv_writesStep_30 rfl ?_
      refine V_ialn 32 (f) (lC17 hL) rfl hf (by decide) d_Pv_writesStep_31 rfl ?_
      refine V_is4 34 d_Pv_writesStep_32 (by decide) rfl ?_
      refine V_al0 35 d_Pv_writesStep_34 rfl ?_
      refine V_getr 38 5 (lC10 hL) kc_Pv (by decide) fl_Pv_28 (Or.inl rfl) rfl d_Pv_writesStep_35 rfl ?_
      refine V_il1 39 d_Pv_writesStep_38 rfl ?_
      refine V_ialn 40 (f) (lC18 hL) rfl hf (by decide) d_Pv_writesStep_39 rfl ?_
      refine V_is5 42 d_Pv_writesStep_40 (by decide) rfl ?_
      refine V_il3 43 d_Pv_writesStep_42 rfl ?_
      refine V_iconst 44 (v := 1) (by decide) d_Pv_writesStep_43 rfl ?_
      refine V_icmp_eq 76 47 d_Pv_writesStep_44 (by decide) rfl (fun h44 => ?_) (fun h44 => ?_)
      · refine V_il3 77 d_Pv_writesStep_76 rfl ?_
        refine V_iconst 78 (v := 1) (by decide) d_Pv_writesStep_77 rfl ?_
        refine V_icmp_eq 104 81 d_Pv_writesStep_78 (by decide) rfl (fun _ => ?_) (fun h9 => absurd h44 h9)
        obtain ⟨n2, hn2, hm2⟩ := hw3
        refine V_al0 105 d_Pv_writesStep_104 rfl ?_
        refine V_getr 108 6 (lC10 hL) kc_Pv (by decide) fl_Pv_31 (Or.inl rfl) rfl d_Pv_writesStep_105 rfl ?_
        refine V_il1 109 d_Pv_writesStep_108 rfl ?_
        refine V_al0 110 d_Pv_writesStep_109 rfl ?_
        refine V_getr 113 1 (lC10 hL) kc_Pv (by decide) fl_Pv_14 (Or.inl rfl) rfl d_Pv_writesStep_110 rfl ?_
        refine V_il3 114 d_Pv_writesStep_113 rfl ?_
        refine V_il4 116 d_Pv_writesStep_114 rfl ?_
        refine V_il5 118 d_Pv_writesStep_116 rfl ?_
        by_cases hs118 : n2 < 40
        · refine V_cV1 121 (c_Pf_append l G _ _ 11 (lC11 hL) n2 hm2 hs118 _ _ _) ok_Pf_append ml_Pv_155 im_Pf_append se_Pf_append (lC11 hL).1 kc_Pf (gRm_ok (by omega) (by decide)) rfl rfl (Nat.le_of_ble_eq_true rfl) d_Pv_writesStep_118 ⟨Nat.le_of_ble_eq_true rfl, Nat.le_of_ble_eq_true rfl⟩ rfl ?_
          refine V_iasn 122 (f) (lC19 hL) rfl hf (by decide) d_Pv_writesStep_121 rfl ?_
          refine V_al0 123 d_Pv_writesStep_122 rfl ?_
          refine V_getr 126 6 (lC10 hL) kc_Pv (by decide) fl_Pv_31 (Or.inl rfl) rfl d_Pv_writesStep_123 rfl ?_
          refine V_il1 127 d_Pv_writesStep_126 rfl ?_
          refine V_ialn 128 (f) (lC19 hL) rfl hf (by decide) d_Pv_writesStep_127 rfl ?_
          refine V_topi (z := nI n2) (by rw [gst_same]; simp [upd]) ?_
          refine V_if_lt 135 131 d_Pv_writesStep_128 (by decide) rfl (fun h9 => absurd h9 (nI_pos (by omega))) (fun _ => ?_)
          refine V_iconst 132 (v := 1) (by decide) d_Pv_writesStep_131 rfl ?_
          refine V_goto 136 d_Pv_writesStep_132 (by decide) ?_
          have e9 := (show wsR (e + 1) M f = _ by rw [wsR, if_neg (not_not_intro h6), if_pos h44, wsA_ok hm2 hs118])
          exact V_zret rfl rfl d_Pv_writesStep_136 ⟨by rw [e9], rfl, by rw [e9]⟩
        · obtain rfl : n2 = 40 := by omega
          refine V_cV1 121 (c_Pf_append_full l G _ _ 11 (lC11 hL) hm2 _ _ _) ok_Pf_append ml_Pv_155 im_Pf_append se_Pf_append (lC11 hL).1 kc_Pf (gRm_ok (by omega) (by decide)) rfl rfl (Nat.le_of_ble_eq_true rfl) d_Pv_writesStep_118 ⟨Nat.le_of_ble_eq_true rfl, Nat.le_of_ble_eq_true rfl⟩ rfl ?_
          refine V_iasn 122 (f) (lC19 hL) rfl hf (by decide) d_Pv_writesStep_121 rfl ?_
          refine V_al0 123 d_Pv_writesStep_122 rfl ?_
          refine V_getr 126 6 (lC10 hL) kc_Pv (by decide) fl_Pv_31 (Or.inl rfl) rfl d_Pv_writesStep_123 rfl ?_
          refine V_il1 127 d_Pv_writesStep_126 rfl ?_
          refine V_ialn 128 (f) (lC19 hL) rfl hf (by decide) d_Pv_writesStep_127 rfl ?_
          refine V_topi (z := -1) (by rw [gst_same]; simp [upd]) ?_
          refine V_if_lt 135 131 d_Pv_writesStep_128 (by decide) rfl (fun _ => ?_) (fun h9 => absurd (show (-1 : Int32) < 0 by decide) h9)
          refine V_iconst 136 (v := 0) (by decide) d_Pv_writesStep_135 rfl ?_
          have e9 := (show wsR (e + 1) M f = _ by rw [wsR, if_neg (not_not_intro h6), if_pos h44, wsA_full hm2])
          exact V_zret rfl rfl d_Pv_writesStep_136 ⟨by rw [e9], rfl, by rw [e9]⟩
      · refine V_il3 48 d_Pv_writesStep_47 rfl ?_
        refine V_bipush 50 (v := 7) (by decide) d_Pv_writesStep_48 rfl ?_
        refine V_icmp_eq 76 53 d_Pv_writesStep_50 (by decide) rfl (fun h50 => ?_) (fun h50 => ?_)
        · refine V_il3 77 d_Pv_writesStep_76 rfl ?_
          refine V_iconst 78 (v := 1) (by decide) d_Pv_writesStep_77 rfl ?_
          refine V_icmp_eq 104 81 d_Pv_writesStep_78 (by decide) rfl (fun h9 => absurd h9 h44) (fun _ => ?_)
          obtain ⟨fz, hz, hSz⟩ := hY h44
          have hfz := (hS fz hSz).1
          have ez : (M 18 f).toNatClampNeg = fz := by rw [hz]; exact nI_clamp (by omega)
          have q2 := wsR_ws e M fz hw3
          refine V_al0 82 d_Pv_writesStep_81 rfl ?_
          refine V_il5 84 d_Pv_writesStep_82 rfl ?_
          refine V_topi hz ?_
          refine V_il2 85 d_Pv_writesStep_84 rfl ?_
          refine V_iconst 86 (v := 1) (by decide) d_Pv_writesStep_85 rfl ?_
          refine V_iadd 87 d_Pv_writesStep_86 rfl ?_
          refine V_topi (nI_1 k) ?_
          refine V_cV1 90 (ih (k + 1) _ fz (by omega) hS hw3 hSz) ok_Pv_writesStep ml_Pv_56 im_Pv_writesStep se_Pv_writesStep (lC10 hL) kc_Pv (gRm_ok (by omega) (by decide)) rfl rfl (Nat.le_of_ble_eq_true rfl) d_Pv_writesStep_87 ⟨Nat.le_of_ble_eq_true rfl, Nat.le_of_ble_eq_true rfl⟩ rfl ?_
          refine V_if_ne 95 93 d_Pv_writesStep_90 (by decide) rfl (fun h90 => ?_) (fun h90 => ?_)
          · refine V_al0 96 d_Pv_writesStep_95 rfl ?_
            refine V_getr 99 6 (lC10 hL) kc_Pv (by decide) fl_Pv_31 (Or.inl rfl) rfl d_Pv_writesStep_96 rfl ?_
            refine V_il5 101 d_Pv_writesStep_99 rfl ?_
            refine V_ialn 102 (fz) (lC19 hL) hz hfz (by decide) d_Pv_writesStep_101 rfl ?_
            refine V_is5 104 d_Pv_writesStep_102 (by decide) rfl ?_
            obtain ⟨n2, hn2, hm2⟩ := q2.2
            refine V_al0 105 d_Pv_writesStep_104 rfl ?_
            refine V_getr 108 6 (lC10 hL) kc_Pv (by decide) fl_Pv_31 (Or.inl rfl) rfl d_Pv_writesStep_105 rfl ?_
            refine V_il1 109 d_Pv_writesStep_108 rfl ?_
            refine V_al0 110 d_Pv_writesStep_109 rfl ?_
            refine V_getr 113 1 (lC10 hL) kc_Pv (by decide) fl_Pv_14 (Or.inl rfl) rfl d_Pv_writesStep_110 rfl ?_
            refine V_il3 114 d_Pv_writesStep_113 rfl ?_
            refine V_il4 116 d_Pv_writesStep_114 rfl ?_
            refine V_il5 118 d_Pv_writesStep_116 rfl ?_
            by_cases hs118 : n2 < 40
            · refine V_cV1 121 (c_Pf_append l G _ _ 11 (lC11 hL) n2 hm2 hs118 _ _ _) ok_Pf_append ml_Pv_155 im_Pf_append se_Pf_append (lC11 hL).1 kc_Pf (gRm_ok (by omega) (by decide)) rfl rfl (Nat.le_of_ble_eq_true rfl) d_Pv_writesStep_118 ⟨Nat.le_of_ble_eq_true rfl, Nat.le_of_ble_eq_true rfl⟩ rfl ?_
              refine V_iasn 122 (f) (lC19 hL) rfl hf (by decide) d_Pv_writesStep_121 rfl ?_
              refine V_al0 123 d_Pv_writesStep_122 rfl ?_
              refine V_getr 126 6 (lC10 hL) kc_Pv (by decide) fl_Pv_31 (Or.inl rfl) rfl d_Pv_writesStep_123 rfl ?_
              refine V_il1 127 d_Pv_writesStep_126 rfl ?_
              refine V_ialn 128 (f) (lC19 hL) rfl hf (by decide) d_Pv_writesStep_127 rfl ?_
              refine V_topi (z := nI n2) (by rw [gst_same]; simp [upd]) ?_
              refine V_if_lt 135 131 d_Pv_writesStep_128 (by decide) rfl (fun h9 => absurd h9 (nI_pos (by omega))) (fun _ => ?_)
              refine V_iconst 132 (v := 1) (by decide) d_Pv_writesStep_131 rfl ?_
              refine V_goto 136 d_Pv_writesStep_132 (by decide) ?_
              have e9 := (show wsR (e + 1) M f = _ by rw [wsR, if_neg (not_not_intro h6), if_neg h44, if_pos h50, ez, if_neg h90, wsA_ok hm2 hs118])
              exact V_zret rfl rfl d_Pv_writesStep_136 ⟨by rw [e9], rfl, by rw [e9]⟩
            · obtain rfl : n2 = 40 := by omega
              refine V_cV1 121 (c_Pf_append_full l G _ _ 11 (lC11 hL) hm2 _ _ _) ok_Pf_append ml_Pv_155 im_Pf_append se_Pf_append (lC11 hL).1 kc_Pf (gRm_ok (by omega) (by decide)) rfl rfl (Nat.le_of_ble_eq_true rfl) d_Pv_writesStep_118 ⟨Nat.le_of_ble_eq_true rfl, Nat.le_of_ble_eq_true rfl⟩ rfl ?_
              refine V_iasn 122 (f) (lC19 hL) rfl hf (by decide) d_Pv_writesStep_121 rfl ?_
              refine V_al0 123 d_Pv_writesStep_122 rfl ?_
              refine V_getr 126 6 (lC10 hL) kc_Pv (by decide) fl_Pv_31 (Or.inl rfl) rfl d_Pv_writesStep_123 rfl ?_
              refine V_il1 127 d_Pv_writesStep_126 rfl ?_
              refine V_ialn 128 (f) (lC19 hL) rfl hf (by decide) d_Pv_writesStep_127 rfl ?_
              refine V_topi (z := -1) (by rw [gst_same]; simp [upd]) ?_
              refine V_if_lt 135 131 d_Pv_writesStep_128 (by decide) rfl (fun _ => ?_) (fun h9 => absurd (show (-1 : Int32) < 0 by decide) h9)
              refine V_iconst 136 (v := 0) (by decide) d_Pv_writesStep_135 rfl ?_
              have e9 := (show wsR (e + 1) M f = _ by rw [wsR, if_neg (not_not_intro h6), if_neg h44, if_pos h50, ez, if_neg h90, wsA_full hm2])
              exact V_zret rfl rfl d_Pv_writesStep_136 ⟨by rw [e9], rfl, by rw [e9]⟩
          · refine V_iconst 94 (v := 0) (by decide) d_Pv_writesStep_93 rfl ?_
            have e9 := (show wsR (e + 1) M f = _ by rw [wsR, if_neg (not_not_intro h6), if_neg h44, if_pos h50, ez, if_pos h90])
            exact V_zret rfl rfl d_Pv_writesStep_94 ⟨by rw [e9], rfl, by rw [e9]⟩
        · obtain ⟨fx, hx, hSx⟩ := hX h44 h50
          have hfx := (hS fx hSx).1
          have ex : (M 17 f).toNatClampNeg = fx := by rw [hx]; exact nI_clamp (by omega)
          have q1 := wsR_ws e M fx hw3
          refine V_al0 54 d_Pv_writesStep_53 rfl ?_
          refine V_il4 56 d_Pv_writesStep_54 rfl ?_
          refine V_topi hx ?_
          refine V_il2 57 d_Pv_writesStep_56 rfl ?_
          refine V_iconst 58 (v := 1) (by decide) d_Pv_writesStep_57 rfl ?_
          refine V_iadd 59 d_Pv_writesStep_58 rfl ?_
          refine V_topi (nI_1 k) ?_
          refine V_cV1 62 (ih (k + 1) _ fx (by omega) hS hw3 hSx) ok_Pv_writesStep ml_Pv_56 im_Pv_writesStep se_Pv_writesStep (lC10 hL) kc_Pv (gRm_ok (by omega) (by decide)) rfl rfl (Nat.le_of_ble_eq_true rfl) d_Pv_writesStep_59 ⟨Nat.le_of_ble_eq_true rfl, Nat.le_of_ble_eq_true rfl⟩ rfl ?_
          refine V_if_ne 67 65 d_Pv_writesStep_62 (by decide) rfl (fun h62 => ?_) (fun h62 => ?_)
          · refine V_al0 68 d_Pv_writesStep_67 rfl ?_
            refine V_getr 71 6 (lC10 hL) kc_Pv (by decide) fl_Pv_31 (Or.inl rfl) rfl d_Pv_writesStep_68 rfl ?_
            refine V_il4 73 d_Pv_writesStep_71 rfl ?_
            refine V_ialn 74 (fx) (lC19 hL) hx hfx (by decide) d_Pv_writesStep_73 rfl ?_
            refine V_is4 76 d_Pv_writesStep_74 (by decide) rfl ?_
            refine V_il3 77 d_Pv_writesStep_76 rfl ?_
            refine V_iconst 78 (v := 1) (by decide) d_Pv_writesStep_77 rfl ?_
            refine V_icmp_eq 104 81 d_Pv_writesStep_78 (by decide) rfl (fun h9 => absurd h9 h44) (fun _ => ?_)
            obtain ⟨fz, hz, hSz⟩ := hY h44
            have hfz := (hS fz hSz).1
            have ez : (M 18 f).toNatClampNeg = fz := by rw [hz]; exact nI_clamp (by omega)
            have q2 := wsR_ws e (wsR e M fx).2 fz q1.2
            refine V_al0 82 d_Pv_writesStep_81 rfl ?_
            refine V_il5 84 d_Pv_writesStep_82 rfl ?_
            refine V_topi hz ?_
            refine V_il2 85 d_Pv_writesStep_84 rfl ?_
            refine V_iconst 86 (v := 1) (by decide) d_Pv_writesStep_85 rfl ?_
            refine V_iadd 87 d_Pv_writesStep_86 rfl ?_
            refine V_topi (nI_1 k) ?_
            refine V_cV1 90 (ih (k + 1) _ fz (by omega) (hS.mv q1.1) q1.2 hSz) ok_Pv_writesStep ml_Pv_56 im_Pv_writesStep se_Pv_writesStep (lC10 hL) kc_Pv (gRm_ok (by omega) (by decide)) rfl rfl (Nat.le_of_ble_eq_true rfl) d_Pv_writesStep_87 ⟨Nat.le_of_ble_eq_true rfl, Nat.le_of_ble_eq_true rfl⟩ rfl ?_
            refine V_if_ne 95 93 d_Pv_writesStep_90 (by decide) rfl (fun h90 => ?_) (fun h90 => ?_)
            · refine V_al0 96 d_Pv_writesStep_95 rfl ?_
              refine V_getr 99 6 (lC10 hL) kc_Pv (by decide) fl_Pv_31 (Or.inl rfl) rfl d_Pv_writesStep_96 rfl ?_
              refine V_il5 101 d_Pv_writesStep_99 rfl ?_
              refine V_ialn 102 (fz) (lC19 hL) hz hfz (by decide) d_Pv_writesStep_101 rfl ?_
              refine V_is5 104 d_Pv_writesStep_102 (by decide) rfl ?_
              obtain ⟨n2, hn2, hm2⟩ := q2.2
              refine V_al0 105 d_Pv_writesStep_104 rfl ?_
              refine V_getr 108 6 (lC10 hL) kc_Pv (by decide) fl_Pv_31 (Or.inl rfl) rfl d_Pv_writesStep_105 rfl ?_
              refine V_il1 109 d_Pv_writesStep_108 rfl ?_
              refine V_al0 110 d_Pv_writesStep_109 rfl ?_
              refine V_getr 113 1 (lC10 hL) kc_Pv (by decide) fl_Pv_14 (Or.inl rfl) rfl d_Pv_writesStep_110 rfl ?_
              refine V_il3 114 d_Pv_writesStep_113 rfl ?_
              refine V_il4 116 d_Pv_writesStep_114 rfl ?_
              refine V_il5 118 d_Pv_writesStep_116 rfl ?_
              by_cases hs118 : n2 < 40
              · refine V_cV1 121 (c_Pf_append l G _ _ 11 (lC11 hL) n2 hm2 hs118 _ _ _) ok_Pf_append ml_Pv_155 im_Pf_append se_Pf_append (lC11 hL).1 kc_Pf (gRm_ok (by omega) (by decide)) rfl rfl (Nat.le_of_ble_eq_true rfl) d_Pv_writesStep_118 ⟨Nat.le_of_ble_eq_true rfl, Nat.le_of_ble_eq_true rfl⟩ rfl ?_
                refine V_iasn 122 (f) (lC19 hL) rfl hf (by decide) d_Pv_writesStep_121 rfl ?_
                refine V_al0 123 d_Pv_writesStep_122 rfl ?_
                refine V_getr 126 6 (lC10 hL) kc_Pv (by decide) fl_Pv_31 (Or.inl rfl) rfl d_Pv_writesStep_123 rfl ?_
                refine V_il1 127 d_Pv_writesStep_126 rfl ?_
                refine V_ialn 128 (f) (lC19 hL) rfl hf (by decide) d_Pv_writesStep_127 rfl ?_
                refine V_topi (z := nI n2) (by rw [gst_same]; simp [upd]) ?_
                refine V_if_lt 135 131 d_Pv_writesStep_128 (by decide) rfl (fun h9 => absurd h9 (nI_pos (by omega))) (fun _ => ?_)
                refine V_iconst 132 (v := 1) (by decide) d_Pv_writesStep_131 rfl ?_
                refine V_goto 136 d_Pv_writesStep_132 (by decide) ?_
                have e9 := (show wsR (e + 1) M f = _ by rw [wsR, if_neg (not_not_intro h6), if_neg h44, if_neg h50, ex, if_neg h62, ez, if_neg h90, wsA_ok hm2 hs118])
                exact V_zret rfl rfl d_Pv_writesStep_136 ⟨by rw [e9], rfl, by rw [e9]⟩
              · obtain rfl : n2 = 40 := by omega
                refine V_cV1 121 (c_Pf_append_full l G _ _ 11 (lC11 hL) hm2 _ _ _) ok_Pf_append ml_Pv_155 im_Pf_append se_Pf_append (lC11 hL).1 kc_Pf (gRm_ok (by omega) (by decide)) rfl rfl (Nat.le_of_ble_eq_true rfl) d_Pv_writesStep_118 ⟨Nat.le_of_ble_eq_true rfl, Nat.le_of_ble_eq_true rfl⟩ rfl ?_
                refine V_iasn 122 (f) (lC19 hL) rfl hf (by decide) d_Pv_writesStep_121 rfl ?_
                refine V_al0 123 d_Pv_writesStep_122 rfl ?_
                refine V_getr 126 6 (lC10 hL) kc_Pv (by decide) fl_Pv_31 (Or.inl rfl) rfl d_Pv_writesStep_123 rfl ?_
                refine V_il1 127 d_Pv_writesStep_126 rfl ?_
                refine V_ialn 128 (f) (lC19 hL) rfl hf (by decide) d_Pv_writesStep_127 rfl ?_
                refine V_topi (z := -1) (by rw [gst_same]; simp [upd]) ?_
                refine V_if_lt 135 131 d_Pv_writesStep_128 (by decide) rfl (fun _ => ?_) (fun h9 => absurd (show (-1 : Int32) < 0 by decide) h9)
                refine V_iconst 136 (v := 0) (by decide) d_Pv_writesStep_135 rfl ?_
                have e9 := (show wsR (e + 1) M f = _ by rw [wsR, if_neg (not_not_intro h6), if_neg h44, if_neg h50, ex, if_neg h62, ez, if_neg h90, wsA_full hm2])
                exact V_zret rfl rfl d_Pv_writesStep_136 ⟨by rw [e9], rfl, by rw [e9]⟩
            · refine V_iconst 94 (v := 0) (by decide) d_Pv_writesStep_93 rfl ?_
              have e9 := (show wsR (e + 1) M f = _ by rw [wsR, if_neg (not_not_intro h6), if_neg h44, if_neg h50, ex, if_neg h62, ez, if_pos h90])
              exact V_zret rfl rfl d_Pv_writesStep_94 ⟨by rw [e9], rfl, by rw [e9]⟩
          · refine V_iconst 66 (v := 0) (by decide) d_Pv_writesStep_65 rfl ?_
            have e9 := (show wsR (e + 1) M f = _ by rw [wsR, if_neg (not_not_intro h6), if_neg h44, if_neg h50, ex, if_pos h62])
            exact V_zret rfl rfl d_Pv_writesStep_66 ⟨by rw [e9], rfl, by rw [e9]⟩
    · refine V_iconst 10 (v := 1) (by decide) d_Pv_writesStep_9 rfl ?_
      exact V_zret rfl rfl d_Pv_writesStep_10 ⟨by rw [wsR, if_pos h6], rfl, by rw [wsR, if_pos h6]⟩

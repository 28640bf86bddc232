/-! the reference: newMay, said, goesOn -/
set_option maxRecDepth 100000 in
set_option maxHeartbeats 4000000 in
theorem c_Mo_newMay (l : Launch) (G : gG) (L : gLy) (M : gMe) (hM : gLM L) (c : Nat) (hcm : M 400 10 = nI c) (hc : c < 25) (K : Nat → Nat → Nat) (hK : gMW M c K) (a x r : Nat) (ha : a < 6) (hx : x < 6) (hr : r < 4) : gMet l G y_Mo_newMay b_Mo_newMay 7 (some FieldType.boolean) (rmL 3 0 0) [.ref 400, .int (nI a), .int (nI x), .int (nI r)] L M gAll (gPo (some (.int (stR M (mayM a x r) (nmR M K c a x r)).1)) L (stR M (mayM a x r) (nmR M K c a x r)).2) 0 0 := by
  by_cases hz : M 421 (mayM a x r) ≤ 0
  · have lpn : ∀ (dn n : Nat), (n + dn = c + 1 ∧ 1 ≤ n) → fstO (nm3 M K a x r) dn n = nmR M K c a x r → ∀ zn0 : Option Value, V l G y_Mo_newMay b_Mo_newMay 7 (some FieldType.boolean) (rmL 3 0 0) 0 0 gAll (gPo (some (.int (stR M (mayM a x r) (nmR M K c a x r)).1)) L (stR M (mayM a x r) (nmR M K c a x r)).2) L (M) 0 0 [some (.ref 400), some (.int (nI a)), some (.int (nI x)), some (.int (nI r)), some (.int (nI (mayM a x r))), some (.int (nI n)), zn0] 172 [] := by
      intro dn
      induction dn with
      | zero =>
        intro n ⟨hxn, hbn⟩ hTn zn0
        refine V_il5 174 d_Mo_newMay_172 rfl ?_
        refine V_al0 175 d_Mo_newMay_174 rfl ?_
        refine V_geti 178 10 (lM hM) kc_Mo (by decide) fl_Mo_134 (Or.inl rfl) rfl d_Mo_newMay_175 rfl ?_
        refine V_topi hcm ?_
        refine V_icmp_gt 271 181 d_Mo_newMay_178 (by decide) rfl (fun _ => ?_) (fun h9 => absurd (nI_lt (by omega) (by omega)) h9)
        refine V_iconst 272 (v := 0) (by decide) d_Mo_newMay_271 rfl ?_
        exact V_zret rfl rfl d_Mo_newMay_272 ⟨by rw [stR_n hz hTn], rfl, by rw [stR_n hz hTn]⟩
      | succ dn ihn =>
        intro n ⟨hxn, hbn⟩ hTn zn0
        have hnc : n ≤ c := by omega
        have hKn := hK n hbn hnc
        refine V_il5 174 d_Mo_newMay_172 rfl ?_
        refine V_al0 175 d_Mo_newMay_174 rfl ?_
        refine V_geti 178 10 (lM hM) kc_Mo (by decide) fl_Mo_134 (Or.inl rfl) rfl d_Mo_newMay_175 rfl ?_
        refine V_topi hcm ?_
        refine V_icmp_gt 271 181 d_Mo_newMay_178 (by decide) rfl (fun h9 => absurd h9 (nI_nlt hnc (by omega))) (fun _ => ?_)
        refine V_al0 182 d_Mo_newMay_181 rfl ?_
        refine V_il5 184 d_Mo_newMay_182 rfl ?_
        refine V_cV1 187 (c_Mo_holds l G _ _ hM c hcm hc n hbn hnc) ok_Mo_holds ml_Mo_147 im_Mo_holds se_Mo_holds (lM hM) kc_Mo (gRm_ok (by decide) (by decide)) rfl rfl (Nat.le_of_ble_eq_true rfl) d_Mo_newMay_184 ⟨Nat.le_of_ble_eq_true rfl, Nat.le_of_ble_eq_true rfl⟩ rfl ?_
        refine V_bz 265 190 d_Mo_newMay_187 (by decide) rfl (fun h187 => ?_) (fun h187 => ?_)
        · refine V_ii5 268 (v := 1) d_Mo_newMay_265 (by decide) (by decide) rfl ?_
          refine V_goto 172 d_Mo_newMay_268 (by decide) ?_
          rw [nI_1]
          exact ihn (n + 1) ⟨by omega, by omega⟩ (fstO_n (F := fun z9 => z9) hTn (if_neg (fun h => h187 h.1))) _
        · refine V_al0 191 d_Mo_newMay_190 rfl ?_
          refine V_getr 194 12 (lM hM) kc_Mo (by decide) fl_Mo_23 (Or.inl rfl) rfl d_Mo_newMay_191 rfl ?_
          refine V_il5 196 d_Mo_newMay_194 rfl ?_
          refine V_ialn 197 (n) (lM405 hM) rfl (by omega) (by decide) d_Mo_newMay_196 rfl ?_
          refine V_topi hKn.2.2.1 ?_
          refine V_iconst 198 (v := 3) (by decide) d_Mo_newMay_197 rfl ?_
          refine V_icmp_ne 265 201 d_Mo_newMay_198 (by decide) rfl (fun h198 => ?_) (fun h198 => ?_)
          · refine V_ii5 268 (v := 1) d_Mo_newMay_265 (by decide) (by decide) rfl ?_
            refine V_goto 172 d_Mo_newMay_268 (by decide) ?_
            rw [nI_1]
            exact ihn (n + 1) ⟨by omega, by omega⟩ (fstO_n (F := fun z9 => z9) hTn (if_neg (fun h => h198 (by rw [h.2.1]; rfl)))) _
          · have k3 : K n 1 = 3 := (nI_eq (b := 3) (by have := hKn.1.2.1; omega) (by decide)).mp h198
            refine V_al0 202 d_Mo_newMay_201 rfl ?_
            refine V_getr 205 11 (lM hM) kc_Mo (by decide) fl_Mo_20 (Or.inl rfl) rfl d_Mo_newMay_202 rfl ?_
            refine V_il5 207 d_Mo_newMay_205 rfl ?_
            refine V_ialn 208 (n) (lM404 hM) rfl (by omega) (by decide) d_Mo_newMay_207 rfl ?_
            refine V_topi hKn.2.1 ?_
            refine V_il1 209 d_Mo_newMay_208 rfl ?_
            refine V_icmp_ne 265 212 d_Mo_newMay_209 (by decide) rfl (fun h209 => ?_) (fun h209 => ?_)
            · refine V_ii5 268 (v := 1) d_Mo_newMay_265 (by decide) (by decide) rfl ?_
              refine V_goto 172 d_Mo_newMay_268 (by decide) ?_
              rw [nI_1]
              exact ihn (n + 1) ⟨by omega, by omega⟩ (fstO_n (F := fun z9 => z9) hTn (if_neg (fun h => h209 (by rw [h.2.2.1])))) _
            · have k0 : K n 0 = a := (nI_eq (by have := hKn.1.1; omega) (by omega)).mp h209
              refine V_al0 213 d_Mo_newMay_212 rfl ?_
              refine V_getr 216 14 (lM hM) kc_Mo (by decide) fl_Mo_29 (Or.inl rfl) rfl d_Mo_newMay_213 rfl ?_
              refine V_il5 218 d_Mo_newMay_216 rfl ?_
              refine V_ialn 219 (n) (lM407 hM) rfl (by omega) (by decide) d_Mo_newMay_218 rfl ?_
              refine V_topi (hKn.2.2.2.2.1 (by omega)) ?_
              refine V_il3 220 d_Mo_newMay_219 rfl ?_
              refine V_icmp_ne 265 223 d_Mo_newMay_220 (by decide) rfl (fun h220 => ?_) (fun h220 => ?_)
              · refine V_ii5 268 (v := 1) d_Mo_newMay_265 (by decide) (by decide) rfl ?_
                refine V_goto 172 d_Mo_newMay_268 (by decide) ?_
                rw [nI_1]
                exact ihn (n + 1) ⟨by omega, by omega⟩ (fstO_n (F := fun z9 => z9) hTn (if_neg (fun h => h220 (by rw [h.2.2.2.1])))) _
              · have kr : K n 3 = r := (nI_eq (by have := (hKn.1.2.2.2.2.2 k3).2; omega) (by omega)).mp h220
                refine V_al0 224 d_Mo_newMay_223 rfl ?_
                refine V_il1 225 d_Mo_newMay_224 rfl ?_
                refine V_il2 226 d_Mo_newMay_225 rfl ?_
                refine V_al0 227 d_Mo_newMay_226 rfl ?_
                refine V_getr 230 13 (lM hM) kc_Mo (by decide) fl_Mo_26 (Or.inl rfl) rfl d_Mo_newMay_227 rfl ?_
                refine V_il5 232 d_Mo_newMay_230 rfl ?_
                refine V_ialn 233 (n) (lM406 hM) rfl (by omega) (by decide) d_Mo_newMay_232 rfl ?_
                refine V_topi hKn.2.2.2.1 ?_
                refine V_cS1 236 (c_Mo_may l G _ _ _ _ _) ok_Mo_may ml_Mo_153 st_Mo_may (gRm_ok (by decide) (by decide)) rfl rfl (Nat.le_of_ble_eq_true rfl) d_Mo_newMay_233 ⟨Nat.le_of_ble_eq_true rfl, Nat.le_of_ble_eq_true rfl⟩ rfl ?_
                refine V_topi (mayM_nI a x (K n 2)) ?_
                refine V_cV1 239 (c_Mo_had l G _ _ hM (mayM a x (K n 2)) (mayM_lt ha hx (hKn.1.2.2.2.2.2 k3).1)) ok_Mo_had ml_Mo_168 im_Mo_had se_Mo_had (lM hM) kc_Mo (gRm_ok (by decide) (by decide)) rfl rfl (Nat.le_of_ble_eq_true rfl) d_Mo_newMay_236 ⟨Nat.le_of_ble_eq_true rfl, Nat.le_of_ble_eq_true rfl⟩ rfl ?_
                refine V_bz 265 242 d_Mo_newMay_239 (by decide) rfl (fun h239 => ?_) (fun h239 => ?_)
                · refine V_ii5 268 (v := 1) d_Mo_newMay_265 (by decide) (by decide) rfl ?_
                  refine V_goto 172 d_Mo_newMay_268 (by decide) ?_
                  rw [nI_1]
                  exact ihn (n + 1) ⟨by omega, by omega⟩ (fstO_n (F := fun z9 => z9) hTn (if_neg (fun h => h239 h.2.2.2.2))) _
                · refine V_al0 243 d_Mo_newMay_242 rfl ?_
                  refine V_il4 245 d_Mo_newMay_243 rfl ?_
                  refine V_bipush 247 (v := 7) (by decide) d_Mo_newMay_245 rfl ?_
                  refine V_il5 249 d_Mo_newMay_247 rfl ?_
                  refine V_il1 250 d_Mo_newMay_249 rfl ?_
                  refine V_il2 251 d_Mo_newMay_250 rfl ?_
                  refine V_al0 252 d_Mo_newMay_251 rfl ?_
                  refine V_getr 255 13 (lM hM) kc_Mo (by decide) fl_Mo_26 (Or.inl rfl) rfl d_Mo_newMay_252 rfl ?_
                  refine V_il5 257 d_Mo_newMay_255 rfl ?_
                  refine V_ialn 258 (n) (lM406 hM) rfl (by omega) (by decide) d_Mo_newMay_257 rfl ?_
                  refine V_topi hKn.2.2.2.1 ?_
                  refine V_cS1 261 (c_Mo_may l G _ _ _ _ _) ok_Mo_may ml_Mo_153 st_Mo_may (gRm_ok (by decide) (by decide)) rfl rfl (Nat.le_of_ble_eq_true rfl) d_Mo_newMay_258 ⟨Nat.le_of_ble_eq_true rfl, Nat.le_of_ble_eq_true rfl⟩ rfl ?_
                  refine V_topi (mayM_nI a x (K n 2)) ?_
                  refine V_cV1 264 (c_Mo_finds l G _ _ hM (mayM a x r) (mayM_lt ha hx hr) _ _ _) ok_Mo_finds ml_Mo_164 im_Mo_finds se_Mo_finds (lM hM) kc_Mo (gRm_ok (by decide) (by decide)) rfl rfl (Nat.le_of_ble_eq_true rfl) d_Mo_newMay_261 ⟨Nat.le_of_ble_eq_true rfl, Nat.le_of_ble_eq_true rfl⟩ rfl ?_
                  have e9 := stR_y hz (fstO_y (F := fun z9 => z9) hTn (if_pos ⟨h187, k3, k0, kr, h239⟩))
                  exact V_zret rfl rfl d_Mo_newMay_264 ⟨by rw [e9], rfl, by rw [e9]⟩
    have lpb : ∀ (db b : Nat), b + db = 6 → orE (fstO (nm2 M a x r) db b) (fstO (nm3 M K a x r) c 1) = nmR M K c a x r → ∀ zb0 : Option Value, V l G y_Mo_newMay b_Mo_newMay 7 (some FieldType.boolean) (rmL 3 0 0) 0 0 gAll (gPo (some (.int (stR M (mayM a x r) (nmR M K c a x r)).1)) L (stR M (mayM a x r) (nmR M K c a x r)).2) L (M) 0 0 [some (.ref 400), some (.int (nI a)), some (.int (nI x)), some (.int (nI r)), some (.int (nI (mayM a x r))), some (.int (nI b)), zb0] 87 [] := by
      intro db
      induction db with
      | zero =>
        intro b hxb hTb zb0
        obtain rfl : b = 6 := by omega
        refine V_il5 89 d_Mo_newMay_87 rfl ?_
        refine V_bipush 91 (v := 6) (by decide) d_Mo_newMay_89 rfl ?_
        refine V_icmp_ge 169 94 d_Mo_newMay_91 (by decide) rfl (fun _ => ?_) (fun h9 => absurd (show (6 : Int32) ≤ nI 6 by decide) h9)
        refine V_iconst 170 (v := 1) (by decide) d_Mo_newMay_169 rfl ?_
        refine V_is5 172 d_Mo_newMay_170 (by decide) rfl ?_
        exact lpn c 1 ⟨by omega, by omega⟩ hTb _
      | succ db ihb =>
        intro b hxb hTb zb0
        have hlb : b < 6 := by omega
        by_cases hk : pHad M (mayM b x r)
        · have lpd : ∀ (dd d : Nat), d + dd = 4 → orE (orE (fstO (nm2D M a x r b) dd d) (fstO (nm2 M a x r) db (b + 1))) (fstO (nm3 M K a x r) c 1) = nmR M K c a x r → V l G y_Mo_newMay b_Mo_newMay 7 (some FieldType.boolean) (rmL 3 0 0) 0 0 gAll (gPo (some (.int (stR M (mayM a x r) (nmR M K c a x r)).1)) L (stR M (mayM a x r) (nmR M K c a x r)).2) L (M) 0 0 [some (.ref 400), some (.int (nI a)), some (.int (nI x)), some (.int (nI r)), some (.int (nI (mayM a x r))), some (.int (nI b)), some (.int (nI d))] 97 [] := by
            intro dd
            induction dd with
            | zero =>
              intro d hxd hTd 
              obtain rfl : d = 4 := by omega
              refine V_il6 99 d_Mo_newMay_97 rfl ?_
              refine V_iconst 100 (v := 4) (by decide) d_Mo_newMay_99 rfl ?_
              refine V_icmp_ge 163 103 d_Mo_newMay_100 (by decide) rfl (fun _ => ?_) (fun h9 => absurd (show (4 : Int32) ≤ nI 4 by decide) h9)
              refine V_ii5 166 (v := 1) d_Mo_newMay_163 (by decide) (by decide) rfl ?_
              refine V_goto 87 d_Mo_newMay_166 (by decide) ?_
              rw [nI_1]
              exact ihb (b + 1) (by omega) hTd _
            | succ dd ihd =>
              intro d hxd hTd 
              have hld : d < 4 := by omega
              refine V_il6 99 d_Mo_newMay_97 rfl ?_
              refine V_iconst 100 (v := 4) (by decide) d_Mo_newMay_99 rfl ?_
              refine V_icmp_ge 163 103 d_Mo_newMay_100 (by decide) rfl (fun h9 => absurd h9 (nI_ge (b := 4) hld (by decide))) (fun _ => ?_)
              refine V_al0 104 d_Mo_newMay_103 rfl ?_
              refine V_il5 106 d_Mo_newMay_104 rfl ?_
              refine V_il2 107 d_Mo_newMay_106 rfl ?_
              refine V_il3 108 d_Mo_newMay_107 rfl ?_
              refine V_cS1 111 (c_Mo_may l G _ _ _ _ _) ok_Mo_may ml_Mo_153 st_Mo_may (gRm_ok (by decide) (by decide)) rfl rfl (Nat.le_of_ble_eq_true rfl) d_Mo_newMay_108 ⟨Nat.le_of_ble_eq_true rfl, Nat.le_of_ble_eq_true rfl⟩ rfl ?_
              refine V_topi (mayM_nI b x r) ?_
              refine V_cV1 114 (c_Mo_had l G _ _ hM (mayM b x r) (mayM_lt hlb hx hr)) ok_Mo_had ml_Mo_168 im_Mo_had se_Mo_had (lM hM) kc_Mo (gRm_ok (by decide) (by decide)) rfl rfl (Nat.le_of_ble_eq_true rfl) d_Mo_newMay_111 ⟨Nat.le_of_ble_eq_true rfl, Nat.le_of_ble_eq_true rfl⟩ rfl ?_
              refine V_bz 163 117 d_Mo_newMay_114 (by decide) rfl (fun h9 => absurd hk h9) (fun _ => ?_)
              refine V_al0 118 d_Mo_newMay_117 rfl ?_
              refine V_il1 119 d_Mo_newMay_118 rfl ?_
              refine V_il5 121 d_Mo_newMay_119 rfl ?_
              refine V_il3 122 d_Mo_newMay_121 rfl ?_
              refine V_il6 124 d_Mo_newMay_122 rfl ?_
              refine V_cS1 127 (c_Mo_trusts l G _ _ _ _ _ _) ok_Mo_trusts ml_Mo_160 st_Mo_trusts (gRm_ok (by decide) (by decide)) rfl rfl (Nat.le_of_ble_eq_true rfl) d_Mo_newMay_124 ⟨Nat.le_of_ble_eq_true rfl, Nat.le_of_ble_eq_true rfl⟩ rfl ?_
              refine V_topi (truM_nI a b r d) ?_
              refine V_cV1 130 (c_Mo_had l G _ _ hM (truM a b r d) (truM_lt ha hlb hr hld)) ok_Mo_had ml_Mo_168 im_Mo_had se_Mo_had (lM hM) kc_Mo (gRm_ok (by decide) (by decide)) rfl rfl (Nat.le_of_ble_eq_true rfl) d_Mo_newMay_127 ⟨Nat.le_of_ble_eq_true rfl, Nat.le_of_ble_eq_true rfl⟩ rfl ?_
              refine V_bz 157 133 d_Mo_newMay_130 (by decide) rfl (fun h130 => ?_) (fun h130 => ?_)
              · refine V_ii6 160 (v := 1) d_Mo_newMay_157 (by decide) (by decide) rfl ?_
                refine V_goto 97 d_Mo_newMay_160 (by decide) ?_
                rw [nI_1]
                exact ihd (d + 1) (by omega) (fstO_n (F := fun z9 => orE (orE (z9) (fstO (nm2 M a x r) db (b + 1))) (fstO (nm3 M K a x r) c 1)) hTd (if_neg h130))
              · refine V_al0 134 d_Mo_newMay_133 rfl ?_
                refine V_il4 136 d_Mo_newMay_134 rfl ?_
                refine V_iconst 137 (v := 3) (by decide) d_Mo_newMay_136 rfl ?_
                refine V_il1 138 d_Mo_newMay_137 rfl ?_
                refine V_il5 140 d_Mo_newMay_138 rfl ?_
                refine V_il3 141 d_Mo_newMay_140 rfl ?_
                refine V_il6 143 d_Mo_newMay_141 rfl ?_
                refine V_cS1 146 (c_Mo_trusts l G _ _ _ _ _ _) ok_Mo_trusts ml_Mo_160 st_Mo_trusts (gRm_ok (by decide) (by decide)) rfl rfl (Nat.le_of_ble_eq_true rfl) d_Mo_newMay_143 ⟨Nat.le_of_ble_eq_true rfl, Nat.le_of_ble_eq_true rfl⟩ rfl ?_
                refine V_topi (truM_nI a b r d) ?_
                refine V_il5 148 d_Mo_newMay_146 rfl ?_
                refine V_il2 149 d_Mo_newMay_148 rfl ?_
                refine V_il3 150 d_Mo_newMay_149 rfl ?_
                refine V_cS1 153 (c_Mo_may l G _ _ _ _ _) ok_Mo_may ml_Mo_153 st_Mo_may (gRm_ok (by decide) (by decide)) rfl rfl (Nat.le_of_ble_eq_true rfl) d_Mo_newMay_150 ⟨Nat.le_of_ble_eq_true rfl, Nat.le_of_ble_eq_true rfl⟩ rfl ?_
                refine V_topi (mayM_nI b x r) ?_
                refine V_cV1 156 (c_Mo_finds l G _ _ hM (mayM a x r) (mayM_lt ha hx hr) _ _ _) ok_Mo_finds ml_Mo_164 im_Mo_finds se_Mo_finds (lM hM) kc_Mo (gRm_ok (by decide) (by decide)) rfl rfl (Nat.le_of_ble_eq_true rfl) d_Mo_newMay_153 ⟨Nat.le_of_ble_eq_true rfl, Nat.le_of_ble_eq_true rfl⟩ rfl ?_
                have e9 := stR_y hz (fstO_y (F := fun z9 => orE (orE (z9) (fstO (nm2 M a x r) db (b + 1))) (fstO (nm3 M K a x r) c 1)) hTd (if_pos h130))
                exact V_zret rfl rfl d_Mo_newMay_156 ⟨by rw [e9], rfl, by rw [e9]⟩
          refine V_il5 89 d_Mo_newMay_87 rfl ?_
          refine V_bipush 91 (v := 6) (by decide) d_Mo_newMay_89 rfl ?_
          refine V_icmp_ge 169 94 d_Mo_newMay_91 (by decide) rfl (fun h9 => absurd h9 (nI_ge (b := 6) hlb (by decide))) (fun _ => ?_)
          refine V_iconst 95 (v := 0) (by decide) d_Mo_newMay_94 rfl ?_
          refine V_is6 97 d_Mo_newMay_95 (by decide) rfl ?_
          exact lpd 4 0 (by decide) (fstO_p (F := fun z9 => orE (z9) (fstO (nm3 M K a x r) c 1)) hTb (if_pos hk))
        · refine V_il5 89 d_Mo_newMay_87 rfl ?_
          refine V_bipush 91 (v := 6) (by decide) d_Mo_newMay_89 rfl ?_
          refine V_icmp_ge 169 94 d_Mo_newMay_91 (by decide) rfl (fun h9 => absurd h9 (nI_ge (b := 6) hlb (by decide))) (fun _ => ?_)
          refine V_iconst 95 (v := 0) (by decide) d_Mo_newMay_94 rfl ?_
          refine V_is6 97 d_Mo_newMay_95 (by decide) rfl ?_
          refine V_il6 99 d_Mo_newMay_97 rfl ?_
          refine V_iconst 100 (v := 4) (by decide) d_Mo_newMay_99 rfl ?_
          refine V_icmp_ge 163 103 d_Mo_newMay_100 (by decide) rfl (fun h9 => absurd h9 (show ¬ (4 : Int32) ≤ 0 by decide)) (fun _ => ?_)
          refine V_al0 104 d_Mo_newMay_103 rfl ?_
          refine V_il5 106 d_Mo_newMay_104 rfl ?_
          refine V_il2 107 d_Mo_newMay_106 rfl ?_
          refine V_il3 108 d_Mo_newMay_107 rfl ?_
          refine V_cS1 111 (c_Mo_may l G _ _ _ _ _) ok_Mo_may ml_Mo_153 st_Mo_may (gRm_ok (by decide) (by decide)) rfl rfl (Nat.le_of_ble_eq_true rfl) d_Mo_newMay_108 ⟨Nat.le_of_ble_eq_true rfl, Nat.le_of_ble_eq_true rfl⟩ rfl ?_
          refine V_topi (mayM_nI b x r) ?_
          refine V_cV1 114 (c_Mo_had l G _ _ hM (mayM b x r) (mayM_lt hlb hx hr)) ok_Mo_had ml_Mo_168 im_Mo_had se_Mo_had (lM hM) kc_Mo (gRm_ok (by decide) (by decide)) rfl rfl (Nat.le_of_ble_eq_true rfl) d_Mo_newMay_111 ⟨Nat.le_of_ble_eq_true rfl, Nat.le_of_ble_eq_true rfl⟩ rfl ?_
          refine V_bz 163 117 d_Mo_newMay_114 (by decide) rfl (fun _ => ?_) (fun h9 => absurd h9 hk)
          refine V_ii5 166 (v := 1) d_Mo_newMay_163 (by decide) (by decide) rfl ?_
          refine V_goto 87 d_Mo_newMay_166 (by decide) ?_
          rw [nI_1]
          exact ihb (b + 1) (by omega) (fstO_n (F := fun z9 => orE (z9) (fstO (nm3 M K a x r) c 1)) hTb (if_neg hk)) _
    have lp2 := lpb
    have lpb : ∀ (db b : Nat), b + db = 6 → orE (fstO (nm1 M a x r) db b) (orE (fstO (nm2 M a x r) 6 0) (fstO (nm3 M K a x r) c 1)) = nmR M K c a x r → ∀ zb0 : Option Value, V l G y_Mo_newMay b_Mo_newMay 7 (some FieldType.boolean) (rmL 3 0 0) 0 0 gAll (gPo (some (.int (stR M (mayM a x r) (nmR M K c a x r)).1)) L (stR M (mayM a x r) (nmR M K c a x r)).2) L (M) 0 0 [some (.ref 400), some (.int (nI a)), some (.int (nI x)), some (.int (nI r)), some (.int (nI (mayM a x r))), some (.int (nI b)), zb0] 23 [] := by
      intro db
      induction db with
      | zero =>
        intro b hxb hTb zb0
        obtain rfl : b = 6 := by omega
        refine V_il5 25 d_Mo_newMay_23 rfl ?_
        refine V_bipush 27 (v := 6) (by decide) d_Mo_newMay_25 rfl ?_
        refine V_icmp_ge 84 30 d_Mo_newMay_27 (by decide) rfl (fun _ => ?_) (fun h9 => absurd (show (6 : Int32) ≤ nI 6 by decide) h9)
        refine V_iconst 85 (v := 0) (by decide) d_Mo_newMay_84 rfl ?_
        refine V_is5 87 d_Mo_newMay_85 (by decide) rfl ?_
        exact lp2 6 0 (by decide) hTb _
      | succ db ihb =>
        intro b hxb hTb zb0
        have hlb : b < 6 := by omega
        refine V_il5 25 d_Mo_newMay_23 rfl ?_
        refine V_bipush 27 (v := 6) (by decide) d_Mo_newMay_25 rfl ?_
        refine V_icmp_ge 84 30 d_Mo_newMay_27 (by decide) rfl (fun h9 => absurd h9 (nI_ge (b := 6) hlb (by decide))) (fun _ => ?_)
        refine V_al0 31 d_Mo_newMay_30 rfl ?_
        refine V_il5 33 d_Mo_newMay_31 rfl ?_
        refine V_il1 34 d_Mo_newMay_33 rfl ?_
        refine V_cS1 37 (c_Mo_speaks l G _ _ _ _) ok_Mo_speaks ml_Mo_157 st_Mo_speaks (gRm_ok (by decide) (by decide)) rfl rfl (Nat.le_of_ble_eq_true rfl) d_Mo_newMay_34 ⟨Nat.le_of_ble_eq_true rfl, Nat.le_of_ble_eq_true rfl⟩ rfl ?_
        refine V_topi (spkM_nI b a) ?_
        refine V_cV1 40 (c_Mo_had l G _ _ hM (spkM b a) (spkM_lt hlb ha)) ok_Mo_had ml_Mo_168 im_Mo_had se_Mo_had (lM hM) kc_Mo (gRm_ok (by decide) (by decide)) rfl rfl (Nat.le_of_ble_eq_true rfl) d_Mo_newMay_37 ⟨Nat.le_of_ble_eq_true rfl, Nat.le_of_ble_eq_true rfl⟩ rfl ?_
        refine V_bz 78 43 d_Mo_newMay_40 (by decide) rfl (fun h40 => ?_) (fun h40 => ?_)
        · refine V_ii5 81 (v := 1) d_Mo_newMay_78 (by decide) (by decide) rfl ?_
          refine V_goto 23 d_Mo_newMay_81 (by decide) ?_
          rw [nI_1]
          exact ihb (b + 1) (by omega) (fstO_n (F := fun z9 => orE (z9) (orE (fstO (nm2 M a x r) 6 0) (fstO (nm3 M K a x r) c 1))) hTb (if_neg (fun h => h40 h.1))) _
        · refine V_al0 44 d_Mo_newMay_43 rfl ?_
          refine V_il5 46 d_Mo_newMay_44 rfl ?_
          refine V_il2 47 d_Mo_newMay_46 rfl ?_
          refine V_il3 48 d_Mo_newMay_47 rfl ?_
          refine V_cS1 51 (c_Mo_may l G _ _ _ _ _) ok_Mo_may ml_Mo_153 st_Mo_may (gRm_ok (by decide) (by decide)) rfl rfl (Nat.le_of_ble_eq_true rfl) d_Mo_newMay_48 ⟨Nat.le_of_ble_eq_true rfl, Nat.le_of_ble_eq_true rfl⟩ rfl ?_
          refine V_topi (mayM_nI b x r) ?_
          refine V_cV1 54 (c_Mo_had l G _ _ hM (mayM b x r) (mayM_lt hlb hx hr)) ok_Mo_had ml_Mo_168 im_Mo_had se_Mo_had (lM hM) kc_Mo (gRm_ok (by decide) (by decide)) rfl rfl (Nat.le_of_ble_eq_true rfl) d_Mo_newMay_51 ⟨Nat.le_of_ble_eq_true rfl, Nat.le_of_ble_eq_true rfl⟩ rfl ?_
          refine V_bz 78 57 d_Mo_newMay_54 (by decide) rfl (fun h54 => ?_) (fun h54 => ?_)
          · refine V_ii5 81 (v := 1) d_Mo_newMay_78 (by decide) (by decide) rfl ?_
            refine V_goto 23 d_Mo_newMay_81 (by decide) ?_
            rw [nI_1]
            exact ihb (b + 1) (by omega) (fstO_n (F := fun z9 => orE (z9) (orE (fstO (nm2 M a x r) 6 0) (fstO (nm3 M K a x r) c 1))) hTb (if_neg (fun h => h54 h.2))) _
          · refine V_al0 58 d_Mo_newMay_57 rfl ?_
            refine V_il4 60 d_Mo_newMay_58 rfl ?_
            refine V_iconst 61 (v := 2) (by decide) d_Mo_newMay_60 rfl ?_
            refine V_il5 63 d_Mo_newMay_61 rfl ?_
            refine V_il1 64 d_Mo_newMay_63 rfl ?_
            refine V_cS1 67 (c_Mo_speaks l G _ _ _ _) ok_Mo_speaks ml_Mo_157 st_Mo_speaks (gRm_ok (by decide) (by decide)) rfl rfl (Nat.le_of_ble_eq_true rfl) d_Mo_newMay_64 ⟨Nat.le_of_ble_eq_true rfl, Nat.le_of_ble_eq_true rfl⟩ rfl ?_
            refine V_topi (spkM_nI b a) ?_
            refine V_il5 69 d_Mo_newMay_67 rfl ?_
            refine V_il2 70 d_Mo_newMay_69 rfl ?_
            refine V_il3 71 d_Mo_newMay_70 rfl ?_
            refine V_cS1 74 (c_Mo_may l G _ _ _ _ _) ok_Mo_may ml_Mo_153 st_Mo_may (gRm_ok (by decide) (by decide)) rfl rfl (Nat.le_of_ble_eq_true rfl) d_Mo_newMay_71 ⟨Nat.le_of_ble_eq_true rfl, Nat.le_of_ble_eq_true rfl⟩ rfl ?_
            refine V_topi (mayM_nI b x r) ?_
            refine V_cV1 77 (c_Mo_finds l G _ _ hM (mayM a x r) (mayM_lt ha hx hr) _ _ _) ok_Mo_finds ml_Mo_164 im_Mo_finds se_Mo_finds (lM hM) kc_Mo (gRm_ok (by decide) (by decide)) rfl rfl (Nat.le_of_ble_eq_true rfl) d_Mo_newMay_74 ⟨Nat.le_of_ble_eq_true rfl, Nat.le_of_ble_eq_true rfl⟩ rfl ?_
            have e9 := stR_y hz (fstO_y (F := fun z9 => orE (z9) (orE (fstO (nm2 M a x r) 6 0) (fstO (nm3 M K a x r) c 1))) hTb (if_pos ⟨h40, h54⟩))
            exact V_zret rfl rfl d_Mo_newMay_77 ⟨by rw [e9], rfl, by rw [e9]⟩
    refine gMet_of (lv := [some (.ref 400), some (.int (nI a)), some (.int (nI x)), some (.int (nI r)), none, none, none]) (by decide) rfl (Nat.le_of_ble_eq_true rfl) rfl ?_
    refine V_il1 1 d_Mo_newMay_0 rfl ?_
    refine V_il2 2 d_Mo_newMay_1 rfl ?_
    refine V_il3 3 d_Mo_newMay_2 rfl ?_
    refine V_cS1 6 (c_Mo_may l G _ _ _ _ _) ok_Mo_may ml_Mo_153 st_Mo_may (gRm_ok (by decide) (by decide)) rfl rfl (Nat.le_of_ble_eq_true rfl) d_Mo_newMay_3 ⟨Nat.le_of_ble_eq_true rfl, Nat.le_of_ble_eq_true rfl⟩ rfl ?_
    refine V_topi (mayM_nI a x r) ?_
    refine V_is4 8 d_Mo_newMay_6 (by decide) rfl ?_
    refine V_al0 9 d_Mo_newMay_8 rfl ?_
    refine V_getr 12 30 (lM hM) kc_Mo (by decide) fl_Mo_71 (Or.inl rfl) rfl d_Mo_newMay_9 rfl ?_
    refine V_il4 14 d_Mo_newMay_12 rfl ?_
    refine V_ialn 15 (mayM a x r) (lM421 hM) rfl (mayM_lt ha hx hr) (by decide) d_Mo_newMay_14 rfl ?_
    refine V_if_le 20 18 d_Mo_newMay_15 (by decide) rfl (fun _ => ?_) (fun h9 => absurd hz h9)
    refine V_iconst 21 (v := 0) (by decide) d_Mo_newMay_20 rfl ?_
    refine V_is5 23 d_Mo_newMay_21 (by decide) rfl ?_
    exact lpb 6 0 (by decide) rfl _
  · refine gMet_of (lv := [some (.ref 400), some (.int (nI a)), some (.int (nI x)), some (.int (nI r)), none, none, none]) (by decide) rfl (Nat.le_of_ble_eq_true rfl) rfl ?_
    refine V_il1 1 d_Mo_newMay_0 rfl ?_
    refine V_il2 2 d_Mo_newMay_1 rfl ?_
    refine V_il3 3 d_Mo_newMay_2 rfl ?_
    refine V_cS1 6 (c_Mo_may l G _ _ _ _ _) ok_Mo_may ml_Mo_153 st_Mo_may (gRm_ok (by decide) (by decide)) rfl rfl (Nat.le_of_ble_eq_true rfl) d_Mo_newMay_3 ⟨Nat.le_of_ble_eq_true rfl, Nat.le_of_ble_eq_true rfl⟩ rfl ?_
    refine V_topi (mayM_nI a x r) ?_
    refine V_is4 8 d_Mo_newMay_6 (by decide) rfl ?_
    refine V_al0 9 d_Mo_newMay_8 rfl ?_
    refine V_getr 12 30 (lM hM) kc_Mo (by decide) fl_Mo_71 (Or.inl rfl) rfl d_Mo_newMay_9 rfl ?_
    refine V_il4 14 d_Mo_newMay_12 rfl ?_
    refine V_ialn 15 (mayM a x r) (lM421 hM) rfl (mayM_lt ha hx hr) (by decide) d_Mo_newMay_14 rfl ?_
    refine V_if_le 20 18 d_Mo_newMay_15 (by decide) rfl (fun h9 => absurd h9 hz) (fun _ => ?_)
    refine V_iconst 19 (v := 0) (by decide) d_Mo_newMay_18 rfl ?_
    exact V_zret rfl rfl d_Mo_newMay_19 ⟨by rw [stR_h hz], rfl, by rw [stR_h hz]⟩
def fsW (f : Nat → Nat) (o : Nat) : Option Nat :=
  if f 1 = 0 then (if f 4 = o then some (mayM (f 0) (f 2) (f 3)) else none) else if f 1 = 1 then some (spkM (f 2) (f 0)) else if f 1 = 2 then (if f 4 = o then some (truM (f 0) (f 2) (f 3) (f 5)) else none) else none
theorem fsW_lt {f : Nat → Nat} {o j : Nat} (hk : kOK f) (h : fsW f o = some j) : j < 756 := by
  obtain ⟨h0, h1, k0, k1, k2, k3⟩ := hk
  unfold fsW at h
  by_cases e0 : f 1 = 0
  · rw [if_pos e0] at h
    by_cases e4 : f 4 = o
    · rw [if_pos e4] at h; cases h; exact mayM_lt h0 (k0 e0).1 (k0 e0).2.1
    · rw [if_neg e4] at h; cases h
  · rw [if_neg e0] at h
    by_cases e1 : f 1 = 1
    · rw [if_pos e1] at h; cases h; exact spkM_lt (k1 e1) h0
    · rw [if_neg e1] at h
      by_cases e2 : f 1 = 2
      · rw [if_pos e2] at h
        by_cases e4 : f 4 = o
        · rw [if_pos e4] at h; cases h; exact truM_lt h0 (k2 e2).1 (k2 e2).2.1 (k2 e2).2.2.2
        · rw [if_neg e4] at h; cases h
      · rw [if_neg e2] at h; cases h
def sdX (K : Nat → Nat → Nat) (o n : Nat) (M : gMe) : gMe := if pHo M n then (match fsW (K n) o with | some j => (if M 421 j = 0 then mFd M j 1 (nI n) 0 else M) | none => M) else M
def sdM (K : Nat → Nat → Nat) (o c : Nat) (M : gMe) : gMe := itN (sdX K o) c 1 M
theorem mFd_400 {M : gMe} {j : Nat} {u f z : Int32} {k : Nat} : mFd M j u f z 400 k = M 400 k := by
  unfold mFd
  rw [gst_ne _ _ _ _ (by decide), gst_ne _ _ _ _ (by decide), gst_ne _ _ _ _ (by decide), gst_ne _ _ _ _ (by decide)]
set_option maxRecDepth 100000 in
set_option maxHeartbeats 4000000 in
theorem c_Mo_said (l : Launch) (G : gG) (L : gLy) (M : gMe) (hM : gLM L) (c : Nat) (hcm : M 400 10 = nI c) (hc : c < 25) (K : Nat → Nat → Nat) (hK : gMW M c K) (o : Nat) (ho : o < 6) (ha : M 400 37 = nI o) : gMet l G y_Mo_said b_Mo_said 3 none (rmL 3 0 0) [.ref 400] L M gAll (gPo none L (sdM K o c M)) 0 0 := by
  have lp : ∀ (d n : Nat) (M' : gMe), n + d = c + 1 ∧ 1 ≤ n → gPm M M' → M' 400 37 = nI o → itN (sdX K o) d n M' = sdM K o c M → ∀ z0 : Option Value, V l G y_Mo_said b_Mo_said 3 none (rmL 3 0 0) 0 0 gAll (gPo none L (sdM K o c M)) L (M') 0 0 [some (.ref 400), some (.int (nI n)), z0] 2 [] := by
    intro d
    induction d with
    | zero =>
      intro n M' ⟨hn, h1⟩ hp hab hT z0
      have hc' : M' 400 10 = nI c := by rw [hp.2 10 (by decide) (by decide) (by decide)]; exact hcm
      refine V_il1 3 d_Mo_said_2 rfl ?_
      refine V_al0 4 d_Mo_said_3 rfl ?_
      refine V_geti 7 10 (lM hM) kc_Mo (by decide) fl_Mo_134 (Or.inl rfl) rfl d_Mo_said_4 rfl ?_
      refine V_topi hc' ?_
      refine V_icmp_gt 185 10 d_Mo_said_7 (by decide) rfl (fun _ => ?_) (fun h9 => absurd (nI_lt (by omega) (by omega)) h9)
      exact V_vret rfl d_Mo_said_185 ⟨rfl, rfl, hT⟩
    | succ d ih =>
      intro n M' ⟨hn, h1⟩ hp hab hT z0
      have hc' : M' 400 10 = nI c := by rw [hp.2 10 (by decide) (by decide) (by decide)]; exact hcm
      have hnc : n ≤ c := by omega
      have hKn := (hK n h1 hnc).mv hp
      refine V_il1 3 d_Mo_said_2 rfl ?_
      refine V_al0 4 d_Mo_said_3 rfl ?_
      refine V_geti 7 10 (lM hM) kc_Mo (by decide) fl_Mo_134 (Or.inl rfl) rfl d_Mo_said_4 rfl ?_
      refine V_topi hc' ?_
      refine V_icmp_gt 185 10 d_Mo_said_7 (by decide) rfl (fun h9 => absurd h9 (nI_nlt hnc (by omega))) (fun _ => ?_)
      refine V_iconst 11 (v := (-1)) (by decide) d_Mo_said_10 rfl ?_
      refine V_is2 12 d_Mo_said_11 (by decide) rfl ?_
      by_cases hs12 : pHo M' n
      · refine V_al0 13 d_Mo_said_12 rfl ?_
        refine V_il1 14 d_Mo_said_13 rfl ?_
        refine V_cV1 17 (c_Mo_holds l G _ _ hM c hc' hc n h1 hnc) ok_Mo_holds ml_Mo_147 im_Mo_holds se_Mo_holds (lM hM) kc_Mo (gRm_ok (by decide) (by decide)) rfl rfl (Nat.le_of_ble_eq_true rfl) d_Mo_said_14 ⟨Nat.le_of_ble_eq_true rfl, Nat.le_of_ble_eq_true rfl⟩ rfl ?_
        refine V_bz 64 20 d_Mo_said_17 (by decide) rfl (fun h9 => absurd hs12 h9) (fun _ => ?_)
        by_cases hs20 : K n 1 = 0
        · refine V_al0 21 d_Mo_said_20 rfl ?_
          refine V_getr 24 12 (lM hM) kc_Mo (by decide) fl_Mo_23 (Or.inl rfl) rfl d_Mo_said_21 rfl ?_
          refine V_il1 25 d_Mo_said_24 rfl ?_
          refine V_ialn 26 (n) (lM405 hM) rfl (by omega) (by decide) d_Mo_said_25 rfl ?_
          refine V_topi hKn.2.2.1 ?_
          refine V_if_ne 64 29 d_Mo_said_26 (by decide) rfl (fun h9 => absurd h9 (not_not_intro (by rw [hs20]; rfl))) (fun _ => ?_)
          by_cases hs29 : K n 4 = o
          · refine V_al0 30 d_Mo_said_29 rfl ?_
            refine V_getr 33 15 (lM hM) kc_Mo (by decide) fl_Mo_32 (Or.inl rfl) rfl d_Mo_said_30 rfl ?_
            refine V_il1 34 d_Mo_said_33 rfl ?_
            refine V_ialn 35 (n) (lM408 hM) rfl (by omega) (by decide) d_Mo_said_34 rfl ?_
            refine V_topi (hKn.2.2.2.2.2.1 (Or.inl hs20)) ?_
            refine V_al0 36 d_Mo_said_35 rfl ?_
            refine V_geti 39 37 (lM hM) kc_Mo (by decide) fl_Mo_150 (Or.inl rfl) rfl d_Mo_said_36 rfl ?_
            refine V_topi hab ?_
            refine V_icmp_ne 64 42 d_Mo_said_39 (by decide) rfl (fun h9 => absurd h9 (not_not_intro (by rw [hs29]))) (fun _ => ?_)
            refine V_al0 43 d_Mo_said_42 rfl ?_
            refine V_getr 46 11 (lM hM) kc_Mo (by decide) fl_Mo_20 (Or.inl rfl) rfl d_Mo_said_43 rfl ?_
            refine V_il1 47 d_Mo_said_46 rfl ?_
            refine V_ialn 48 (n) (lM404 hM) rfl (by omega) (by decide) d_Mo_said_47 rfl ?_
            refine V_topi hKn.2.1 ?_
            refine V_al0 49 d_Mo_said_48 rfl ?_
            refine V_getr 52 13 (lM hM) kc_Mo (by decide) fl_Mo_26 (Or.inl rfl) rfl d_Mo_said_49 rfl ?_
            refine V_il1 53 d_Mo_said_52 rfl ?_
            refine V_ialn 54 (n) (lM406 hM) rfl (by omega) (by decide) d_Mo_said_53 rfl ?_
            refine V_topi hKn.2.2.2.1 ?_
            refine V_al0 55 d_Mo_said_54 rfl ?_
            refine V_getr 58 14 (lM hM) kc_Mo (by decide) fl_Mo_29 (Or.inl rfl) rfl d_Mo_said_55 rfl ?_
            refine V_il1 59 d_Mo_said_58 rfl ?_
            refine V_ialn 60 (n) (lM407 hM) rfl (by omega) (by decide) d_Mo_said_59 rfl ?_
            refine V_topi (hKn.2.2.2.2.1 (by omega)) ?_
            refine V_cS1 63 (c_Mo_may l G _ _ _ _ _) ok_Mo_may ml_Mo_153 st_Mo_may (gRm_ok (by decide) (by decide)) rfl rfl (Nat.le_of_ble_eq_true rfl) d_Mo_said_60 ⟨Nat.le_of_ble_eq_true rfl, Nat.le_of_ble_eq_true rfl⟩ rfl ?_
            refine V_topi (mayM_nI (K n 0) (K n 2) (K n 3)) ?_
            refine V_is2 64 d_Mo_said_63 (by decide) rfl ?_
            refine V_al0 65 d_Mo_said_64 rfl ?_
            refine V_il1 66 d_Mo_said_65 rfl ?_
            refine V_cV1 69 (c_Mo_holds l G _ _ hM c hc' hc n h1 hnc) ok_Mo_holds ml_Mo_147 im_Mo_holds se_Mo_holds (lM hM) kc_Mo (gRm_ok (by decide) (by decide)) rfl rfl (Nat.le_of_ble_eq_true rfl) d_Mo_said_66 ⟨Nat.le_of_ble_eq_true rfl, Nat.le_of_ble_eq_true rfl⟩ rfl ?_
            refine V_bz 98 72 d_Mo_said_69 (by decide) rfl (fun h9 => absurd hs12 h9) (fun _ => ?_)
            refine V_al0 73 d_Mo_said_72 rfl ?_
            refine V_getr 76 12 (lM hM) kc_Mo (by decide) fl_Mo_23 (Or.inl rfl) rfl d_Mo_said_73 rfl ?_
            refine V_il1 77 d_Mo_said_76 rfl ?_
            refine V_ialn 78 (n) (lM405 hM) rfl (by omega) (by decide) d_Mo_said_77 rfl ?_
            refine V_topi hKn.2.2.1 ?_
            refine V_iconst 79 (v := 1) (by decide) d_Mo_said_78 rfl ?_
            refine V_icmp_ne 98 82 d_Mo_said_79 (by decide) rfl (fun _ => ?_) (fun h9 => absurd h9 (by rw [hs20]; decide))
            refine V_al0 99 d_Mo_said_98 rfl ?_
            refine V_il1 100 d_Mo_said_99 rfl ?_
            refine V_cV1 103 (c_Mo_holds l G _ _ hM c hc' hc n h1 hnc) ok_Mo_holds ml_Mo_147 im_Mo_holds se_Mo_holds (lM hM) kc_Mo (gRm_ok (by decide) (by decide)) rfl rfl (Nat.le_of_ble_eq_true rfl) d_Mo_said_100 ⟨Nat.le_of_ble_eq_true rfl, Nat.le_of_ble_eq_true rfl⟩ rfl ?_
            refine V_bz 157 106 d_Mo_said_103 (by decide) rfl (fun h9 => absurd hs12 h9) (fun _ => ?_)
            refine V_al0 107 d_Mo_said_106 rfl ?_
            refine V_getr 110 12 (lM hM) kc_Mo (by decide) fl_Mo_23 (Or.inl rfl) rfl d_Mo_said_107 rfl ?_
            refine V_il1 111 d_Mo_said_110 rfl ?_
            refine V_ialn 112 (n) (lM405 hM) rfl (by omega) (by decide) d_Mo_said_111 rfl ?_
            refine V_topi hKn.2.2.1 ?_
            refine V_iconst 113 (v := 2) (by decide) d_Mo_said_112 rfl ?_
            refine V_icmp_ne 157 116 d_Mo_said_113 (by decide) rfl (fun _ => ?_) (fun h9 => absurd h9 (by rw [hs20]; decide))
            refine V_il2 158 d_Mo_said_157 rfl ?_
            have hj8 : mayM (K n 0) (K n 2) (K n 3) < 756 := fsW_lt hKn.1 (show fsW (K n) o = _ by rw [fsW, if_pos hs20, if_pos hs29])
            refine V_if_lt 179 161 d_Mo_said_158 (by decide) rfl (fun h9 => absurd h9 (nI_pos (by omega))) (fun _ => ?_)
            have hj9 : fsW (K n) o = some (mayM (K n 0) (K n 2) (K n 3)) := by rw [fsW, if_pos hs20, if_pos hs29]
            have hj7 := fsW_lt hKn.1 hj9
            refine V_al0 162 d_Mo_said_161 rfl ?_
            refine V_getr 165 30 (lM hM) kc_Mo (by decide) fl_Mo_71 (Or.inl rfl) rfl d_Mo_said_162 rfl ?_
            refine V_il2 166 d_Mo_said_165 rfl ?_
            refine V_ialn 167 (_) (lM421 hM) rfl hj7 (by decide) d_Mo_said_166 rfl ?_
            refine V_if_ne 179 170 d_Mo_said_167 (by decide) rfl (fun h167 => ?_) (fun h167 => ?_)
            · refine V_ii1 182 (v := 1) d_Mo_said_179 (by decide) (by decide) rfl ?_
              refine V_goto 2 d_Mo_said_182 (by decide) ?_
              rw [nI_1]
              exact ih (n + 1) _ ⟨by omega, by omega⟩ (hp.tr gPm.rf) hab (itN_s (F := fun z9 => z9) hT ((if_pos hs12).trans (by rw [hj9]; exact if_neg h167))) _
            · refine V_al0 171 d_Mo_said_170 rfl ?_
              refine V_il2 172 d_Mo_said_171 rfl ?_
              refine V_iconst 173 (v := 1) (by decide) d_Mo_said_172 rfl ?_
              refine V_il1 174 d_Mo_said_173 rfl ?_
              refine V_iconst 175 (v := 0) (by decide) d_Mo_said_174 rfl ?_
              refine V_cV1 178 (c_Mo_finds l G _ _ hM _ hj7 _ _ _) ok_Mo_finds ml_Mo_164 im_Mo_finds se_Mo_finds (lM hM) kc_Mo (gRm_ok (by decide) (by decide)) rfl rfl (Nat.le_of_ble_eq_true rfl) d_Mo_said_175 ⟨Nat.le_of_ble_eq_true rfl, Nat.le_of_ble_eq_true rfl⟩ rfl ?_
              refine V_pop 179 rfl d_Mo_said_178 rfl ?_
              refine V_ii1 182 (v := 1) d_Mo_said_179 (by decide) (by decide) rfl ?_
              refine V_goto 2 d_Mo_said_182 (by decide) ?_
              rw [nI_1]
              exact ih (n + 1) _ ⟨by omega, by omega⟩ (hp.tr gPm.fd) (by rw [mFd_400]; exact hab) (itN_s (F := fun z9 => z9) hT ((if_pos hs12).trans (by rw [hj9]; exact if_pos h167))) _
          · refine V_al0 30 d_Mo_said_29 rfl ?_
            refine V_getr 33 15 (lM hM) kc_Mo (by decide) fl_Mo_32 (Or.inl rfl) rfl d_Mo_said_30 rfl ?_
            refine V_il1 34 d_Mo_said_33 rfl ?_
            refine V_ialn 35 (n) (lM408 hM) rfl (by omega) (by decide) d_Mo_said_34 rfl ?_
            refine V_topi (hKn.2.2.2.2.2.1 (Or.inl hs20)) ?_
            refine V_al0 36 d_Mo_said_35 rfl ?_
            refine V_geti 39 37 (lM hM) kc_Mo (by decide) fl_Mo_150 (Or.inl rfl) rfl d_Mo_said_36 rfl ?_
            refine V_topi hab ?_
            refine V_icmp_ne 64 42 d_Mo_said_39 (by decide) rfl (fun _ => ?_) (fun h9 => absurd h9 (fun h => hs29 ((nI_eq (by have := (hKn.1.2.2.1 hs20).2.2; omega) (by omega)).mp h)))
            refine V_al0 65 d_Mo_said_64 rfl ?_
            refine V_il1 66 d_Mo_said_65 rfl ?_
            refine V_cV1 69 (c_Mo_holds l G _ _ hM c hc' hc n h1 hnc) ok_Mo_holds ml_Mo_147 im_Mo_holds se_Mo_holds (lM hM) kc_Mo (gRm_ok (by decide) (by decide)) rfl rfl (Nat.le_of_ble_eq_true rfl) d_Mo_said_66 ⟨Nat.le_of_ble_eq_true rfl, Nat.le_of_ble_eq_true rfl⟩ rfl ?_
            refine V_bz 98 72 d_Mo_said_69 (by decide) rfl (fun h9 => absurd hs12 h9) (fun _ => ?_)
            refine V_al0 73 d_Mo_said_72 rfl ?_
            refine V_getr 76 12 (lM hM) kc_Mo (by decide) fl_Mo_23 (Or.inl rfl) rfl d_Mo_said_73 rfl ?_
            refine V_il1 77 d_Mo_said_76 rfl ?_
            refine V_ialn 78 (n) (lM405 hM) rfl (by omega) (by decide) d_Mo_said_77 rfl ?_
            refine V_topi hKn.2.2.1 ?_
            refine V_iconst 79 (v := 1) (by decide) d_Mo_said_78 rfl ?_
            refine V_icmp_ne 98 82 d_Mo_said_79 (by decide) rfl (fun _ => ?_) (fun h9 => absurd h9 (by rw [hs20]; decide))
            refine V_al0 99 d_Mo_said_98 rfl ?_
            refine V_il1 100 d_Mo_said_99 rfl ?_
            refine V_cV1 103 (c_Mo_holds l G _ _ hM c hc' hc n h1 hnc) ok_Mo_holds ml_Mo_147 im_Mo_holds se_Mo_holds (lM hM) kc_Mo (gRm_ok (by decide) (by decide)) rfl rfl (Nat.le_of_ble_eq_true rfl) d_Mo_said_100 ⟨Nat.le_of_ble_eq_true rfl, Nat.le_of_ble_eq_true rfl⟩ rfl ?_
            refine V_bz 157 106 d_Mo_said_103 (by decide) rfl (fun h9 => absurd hs12 h9) (fun _ => ?_)
            refine V_al0 107 d_Mo_said_106 rfl ?_
            refine V_getr 110 12 (lM hM) kc_Mo (by decide) fl_Mo_23 (Or.inl rfl) rfl d_Mo_said_107 rfl ?_
            refine V_il1 111 d_Mo_said_110 rfl ?_
            refine V_ialn 112 (n) (lM405 hM) rfl (by omega) (by decide) d_Mo_said_111 rfl ?_
            refine V_topi hKn.2.2.1 ?_
            refine V_iconst 113 (v := 2) (by decide) d_Mo_said_112 rfl ?_
            refine V_icmp_ne 157 116 d_Mo_said_113 (by decide) rfl (fun _ => ?_) (fun h9 => absurd h9 (by rw [hs20]; decide))
            refine V_il2 158 d_Mo_said_157 rfl ?_
            refine V_if_lt 179 161 d_Mo_said_158 (by decide) rfl (fun _ => ?_) (fun h9 => absurd (show (-1 : Int32) < 0 by decide) h9)
            refine V_ii1 182 (v := 1) d_Mo_said_179 (by decide) (by decide) rfl ?_
            refine V_goto 2 d_Mo_said_182 (by decide) ?_
            rw [nI_1]
            exact ih (n + 1) _ ⟨by omega, by omega⟩ (hp.tr gPm.rf) hab (itN_s (F := fun z9 => z9) hT ((if_pos hs12).trans (by rw [show fsW (K n) o = none by rw [fsW, if_pos hs20, if_neg hs29]]))) _
        · refine V_al0 21 d_Mo_said_20 rfl ?_
          refine V_getr 24 12 (lM hM) kc_Mo (by decide) fl_Mo_23 (Or.inl rfl) rfl d_Mo_said_21 rfl ?_
          refine V_il1 25 d_Mo_said_24 rfl ?_
          refine V_ialn 26 (n) (lM405 hM) rfl (by omega) (by decide) d_Mo_said_25 rfl ?_
          refine V_topi hKn.2.2.1 ?_
          refine V_if_ne 64 29 d_Mo_said_26 (by decide) rfl (fun _ => ?_) (fun h9 => absurd h9 (fun h => hs20 ((nI_eq (b := 0) (by have := hKn.1.2.1; omega) (by decide)).mp h)))
          refine V_al0 65 d_Mo_said_64 rfl ?_
          refine V_il1 66 d_Mo_said_65 rfl ?_
          refine V_cV1 69 (c_Mo_holds l G _ _ hM c hc' hc n h1 hnc) ok_Mo_holds ml_Mo_147 im_Mo_holds se_Mo_holds (lM hM) kc_Mo (gRm_ok (by decide) (by decide)) rfl rfl (Nat.le_of_ble_eq_true rfl) d_Mo_said_66 ⟨Nat.le_of_ble_eq_true rfl, Nat.le_of_ble_eq_true rfl⟩ rfl ?_
          refine V_bz 98 72 d_Mo_said_69 (by decide) rfl (fun h9 => absurd hs12 h9) (fun _ => ?_)
          by_cases hs72 : K n 1 = 1
          · refine V_al0 73 d_Mo_said_72 rfl ?_
            refine V_getr 76 12 (lM hM) kc_Mo (by decide) fl_Mo_23 (Or.inl rfl) rfl d_Mo_said_73 rfl ?_
            refine V_il1 77 d_Mo_said_76 rfl ?_
            refine V_ialn 78 (n) (lM405 hM) rfl (by omega) (by decide) d_Mo_said_77 rfl ?_
            refine V_topi hKn.2.2.1 ?_
            refine V_iconst 79 (v := 1) (by decide) d_Mo_said_78 rfl ?_
            refine V_icmp_ne 98 82 d_Mo_said_79 (by decide) rfl (fun h9 => absurd h9 (not_not_intro (by rw [hs72]; rfl))) (fun _ => ?_)
            refine V_al0 83 d_Mo_said_82 rfl ?_
            refine V_getr 86 13 (lM hM) kc_Mo (by decide) fl_Mo_26 (Or.inl rfl) rfl d_Mo_said_83 rfl ?_
            refine V_il1 87 d_Mo_said_86 rfl ?_
            refine V_ialn 88 (n) (lM406 hM) rfl (by omega) (by decide) d_Mo_said_87 rfl ?_
            refine V_topi hKn.2.2.2.1 ?_
            refine V_al0 89 d_Mo_said_88 rfl ?_
            refine V_getr 92 11 (lM hM) kc_Mo (by decide) fl_Mo_20 (Or.inl rfl) rfl d_Mo_said_89 rfl ?_
            refine V_il1 93 d_Mo_said_92 rfl ?_
            refine V_ialn 94 (n) (lM404 hM) rfl (by omega) (by decide) d_Mo_said_93 rfl ?_
            refine V_topi hKn.2.1 ?_
            refine V_cS1 97 (c_Mo_speaks l G _ _ _ _) ok_Mo_speaks ml_Mo_157 st_Mo_speaks (gRm_ok (by decide) (by decide)) rfl rfl (Nat.le_of_ble_eq_true rfl) d_Mo_said_94 ⟨Nat.le_of_ble_eq_true rfl, Nat.le_of_ble_eq_true rfl⟩ rfl ?_
            refine V_topi (spkM_nI (K n 2) (K n 0)) ?_
            refine V_is2 98 d_Mo_said_97 (by decide) rfl ?_
            refine V_al0 99 d_Mo_said_98 rfl ?_
            refine V_il1 100 d_Mo_said_99 rfl ?_
            refine V_cV1 103 (c_Mo_holds l G _ _ hM c hc' hc n h1 hnc) ok_Mo_holds ml_Mo_147 im_Mo_holds se_Mo_holds (lM hM) kc_Mo (gRm_ok (by decide) (by decide)) rfl rfl (Nat.le_of_ble_eq_true rfl) d_Mo_said_100 ⟨Nat.le_of_ble_eq_true rfl, Nat.le_of_ble_eq_true rfl⟩ rfl ?_
            refine V_bz 157 106 d_Mo_said_103 (by decide) rfl (fun h9 => absurd hs12 h9) (fun _ => ?_)
            refine V_al0 107 d_Mo_said_106 rfl ?_
            refine V_getr 110 12 (lM hM) kc_Mo (by decide) fl_Mo_23 (Or.inl rfl) rfl d_Mo_said_107 rfl ?_
            refine V_il1 111 d_Mo_said_110 rfl ?_
            refine V_ialn 112 (n) (lM405 hM) rfl (by omega) (by decide) d_Mo_said_111 rfl ?_
            refine V_topi hKn.2.2.1 ?_
            refine V_iconst 113 (v := 2) (by decide) d_Mo_said_112 rfl ?_
            refine V_icmp_ne 157 116 d_Mo_said_113 (by decide) rfl (fun _ => ?_) (fun h9 => absurd h9 (by rw [hs72]; decide))
            refine V_il2 158 d_Mo_said_157 rfl ?_
            have hj8 : spkM (K n 2) (K n 0) < 756 := fsW_lt hKn.1 (show fsW (K n) o = _ by rw [fsW, if_neg hs20, if_pos hs72])
            refine V_if_lt 179 161 d_Mo_said_158 (by decide) rfl (fun h9 => absurd h9 (nI_pos (by omega))) (fun _ => ?_)
            have hj9 : fsW (K n) o = some (spkM (K n 2) (K n 0)) := by rw [fsW, if_neg hs20, if_pos hs72]
            have hj7 := fsW_lt hKn.1 hj9
            refine V_al0 162 d_Mo_said_161 rfl ?_
            refine V_getr 165 30 (lM hM) kc_Mo (by decide) fl_Mo_71 (Or.inl rfl) rfl d_Mo_said_162 rfl ?_
            refine V_il2 166 d_Mo_said_165 rfl ?_
            refine V_ialn 167 (_) (lM421 hM) rfl hj7 (by decide) d_Mo_said_166 rfl ?_
            refine V_if_ne 179 170 d_Mo_said_167 (by decide) rfl (fun h167 => ?_) (fun h167 => ?_)
            · refine V_ii1 182 (v := 1) d_Mo_said_179 (by decide) (by decide) rfl ?_
              refine V_goto 2 d_Mo_said_182 (by decide) ?_
              rw [nI_1]
              exact ih (n + 1) _ ⟨by omega, by omega⟩ (hp.tr gPm.rf) hab (itN_s (F := fun z9 => z9) hT ((if_pos hs12).trans (by rw [hj9]; exact if_neg h167))) _
            · refine V_al0 171 d_Mo_said_170 rfl ?_
              refine V_il2 172 d_Mo_said_171 rfl ?_
              refine V_iconst 173 (v := 1) (by decide) d_Mo_said_172 rfl ?_
              refine V_il1 174 d_Mo_said_173 rfl ?_
              refine V_iconst 175 (v := 0) (by decide) d_Mo_said_174 rfl ?_
              refine V_cV1 178 (c_Mo_finds l G _ _ hM _ hj7 _ _ _) ok_Mo_finds ml_Mo_164 im_Mo_finds se_Mo_finds (lM hM) kc_Mo (gRm_ok (by decide) (by decide)) rfl rfl (Nat.le_of_ble_eq_true rfl) d_Mo_said_175 ⟨Nat.le_of_ble_eq_true rfl, Nat.le_of_ble_eq_true rfl⟩ rfl ?_
              refine V_pop 179 rfl d_Mo_said_178 rfl ?_
              refine V_ii1 182 (v := 1) d_Mo_said_179 (by decide) (by decide) rfl ?_
              refine V_goto 2 d_Mo_said_182 (by decide) ?_
              rw [nI_1]
              exact ih (n + 1) _ ⟨by omega, by omega⟩ (hp.tr gPm.fd) (by rw [mFd_400]; exact hab) (itN_s (F := fun z9 => z9) hT ((if_pos hs12).trans (by rw [hj9]; exact if_pos h167))) _
          · refine V_al0 73 d_Mo_said_72 rfl ?_
            refine V_getr 76 12 (lM hM) kc_Mo (by decide) fl_Mo_23 (Or.inl rfl) rfl d_Mo_said_73 rfl ?_
            refine V_il1 77 d_Mo_said_76 rfl ?_
            refine V_ialn 78 (n) (lM405 hM) rfl (by omega) (by decide) d_Mo_said_77 rfl ?_
            refine V_topi hKn.2.2.1 ?_
            refine V_iconst 79 (v := 1) (by decide) d_Mo_said_78 rfl ?_
            refine V_icmp_ne 98 82 d_Mo_said_79 (by decide) rfl (fun _ => ?_) (fun h9 => absurd h9 (fun h => hs72 ((nI_eq (b := 1) (by have := hKn.1.2.1; omega) (by decide)).mp h)))
            refine V_al0 99 d_Mo_said_98 rfl ?_
            refine V_il1 100 d_Mo_said_99 rfl ?_
            refine V_cV1 103 (c_Mo_holds l G _ _ hM c hc' hc n h1 hnc) ok_Mo_holds ml_Mo_147 im_Mo_holds se_Mo_holds (lM hM) kc_Mo (gRm_ok (by decide) (by decide)) rfl rfl (Nat.le_of_ble_eq_true rfl) d_Mo_said_100 ⟨Nat.le_of_ble_eq_true rfl, Nat.le_of_ble_eq_true rfl⟩ rfl ?_
            refine V_bz 157 106 d_Mo_said_103 (by decide) rfl (fun h9 => absurd hs12 h9) (fun _ => ?_)
            by_cases hs106 : K n 1 = 2
            · refine V_al0 107 d_Mo_said_106 rfl ?_
              refine V_getr 110 12 (lM hM) kc_Mo (by decide) fl_Mo_23 (Or.inl rfl) rfl d_Mo_said_107 rfl ?_
              refine V_il1 111 d_Mo_said_110 rfl ?_
              refine V_ialn 112 (n) (lM405 hM) rfl (by omega) (by decide) d_Mo_said_111 rfl ?_
              refine V_topi hKn.2.2.1 ?_
              refine V_iconst 113 (v := 2) (by decide) d_Mo_said_112 rfl ?_
              refine V_icmp_ne 157 116 d_Mo_said_113 (by decide) rfl (fun h9 => absurd h9 (not_not_intro (by rw [hs106]; rfl))) (fun _ => ?_)
              by_cases hs116 : K n 4 = o
              · refine V_al0 117 d_Mo_said_116 rfl ?_
                refine V_getr 120 15 (lM hM) kc_Mo (by decide) fl_Mo_32 (Or.inl rfl) rfl d_Mo_said_117 rfl ?_
                refine V_il1 121 d_Mo_said_120 rfl ?_
                refine V_ialn 122 (n) (lM408 hM) rfl (by omega) (by decide) d_Mo_said_121 rfl ?_
                refine V_topi (hKn.2.2.2.2.2.1 (Or.inr hs106)) ?_
                refine V_al0 123 d_Mo_said_122 rfl ?_
                refine V_geti 126 37 (lM hM) kc_Mo (by decide) fl_Mo_150 (Or.inl rfl) rfl d_Mo_said_123 rfl ?_
                refine V_topi hab ?_
                refine V_icmp_ne 157 129 d_Mo_said_126 (by decide) rfl (fun h9 => absurd h9 (not_not_intro (by rw [hs116]))) (fun _ => ?_)
                refine V_al0 130 d_Mo_said_129 rfl ?_
                refine V_getr 133 11 (lM hM) kc_Mo (by decide) fl_Mo_20 (Or.inl rfl) rfl d_Mo_said_130 rfl ?_
                refine V_il1 134 d_Mo_said_133 rfl ?_
                refine V_ialn 135 (n) (lM404 hM) rfl (by omega) (by decide) d_Mo_said_134 rfl ?_
                refine V_topi hKn.2.1 ?_
                refine V_al0 136 d_Mo_said_135 rfl ?_
                refine V_getr 139 13 (lM hM) kc_Mo (by decide) fl_Mo_26 (Or.inl rfl) rfl d_Mo_said_136 rfl ?_
                refine V_il1 140 d_Mo_said_139 rfl ?_
                refine V_ialn 141 (n) (lM406 hM) rfl (by omega) (by decide) d_Mo_said_140 rfl ?_
                refine V_topi hKn.2.2.2.1 ?_
                refine V_al0 142 d_Mo_said_141 rfl ?_
                refine V_getr 145 14 (lM hM) kc_Mo (by decide) fl_Mo_29 (Or.inl rfl) rfl d_Mo_said_142 rfl ?_
                refine V_il1 146 d_Mo_said_145 rfl ?_
                refine V_ialn 147 (n) (lM407 hM) rfl (by omega) (by decide) d_Mo_said_146 rfl ?_
                refine V_topi (hKn.2.2.2.2.1 (by omega)) ?_
                refine V_al0 148 d_Mo_said_147 rfl ?_
                refine V_getr 151 16 (lM hM) kc_Mo (by decide) fl_Mo_35 (Or.inl rfl) rfl d_Mo_said_148 rfl ?_
                refine V_il1 152 d_Mo_said_151 rfl ?_
                refine V_ialn 153 (n) (lM409 hM) rfl (by omega) (by decide) d_Mo_said_152 rfl ?_
                refine V_topi (hKn.2.2.2.2.2.2 hs106) ?_
                refine V_cS1 156 (c_Mo_trusts l G _ _ _ _ _ _) ok_Mo_trusts ml_Mo_160 st_Mo_trusts (gRm_ok (by decide) (by decide)) rfl rfl (Nat.le_of_ble_eq_true rfl) d_Mo_said_153 ⟨Nat.le_of_ble_eq_true rfl, Nat.le_of_ble_eq_true rfl⟩ rfl ?_
                refine V_topi (truM_nI (K n 0) (K n 2) (K n 3) (K n 5)) ?_
                refine V_is2 157 d_Mo_said_156 (by decide) rfl ?_
                refine V_il2 158 d_Mo_said_157 rfl ?_
                have hj8 : truM (K n 0) (K n 2) (K n 3) (K n 5) < 756 := fsW_lt hKn.1 (show fsW (K n) o = _ by rw [fsW, if_neg hs20, if_neg hs72, if_pos hs106, if_pos hs116])
                refine V_if_lt 179 161 d_Mo_said_158 (by decide) rfl (fun h9 => absurd h9 (nI_pos (by omega))) (fun _ => ?_)
                have hj9 : fsW (K n) o = some (truM (K n 0) (K n 2) (K n 3) (K n 5)) := by rw [fsW, if_neg hs20, if_neg hs72, if_pos hs106, if_pos hs116]
                have hj7 := fsW_lt hKn.1 hj9
                refine V_al0 162 d_Mo_said_161 rfl ?_
                refine V_getr 165 30 (lM hM) kc_Mo (by decide) fl_Mo_71 (Or.inl rfl) rfl d_Mo_said_162 rfl ?_
                refine V_il2 166 d_Mo_said_165 rfl ?_
                refine V_ialn 167 (_) (lM421 hM) rfl hj7 (by decide) d_Mo_said_166 rfl ?_
                refine V_if_ne 179 170 d_Mo_said_167 (by decide) rfl (fun h167 => ?_) (fun h167 => ?_)
                · refine V_ii1 182 (v := 1) d_Mo_said_179 (by decide) (by decide) rfl ?_
                  refine V_goto 2 d_Mo_said_182 (by decide) ?_
                  rw [nI_1]
                  exact ih (n + 1) _ ⟨by omega, by omega⟩ (hp.tr gPm.rf) hab (itN_s (F := fun z9 => z9) hT ((if_pos hs12).trans (by rw [hj9]; exact if_neg h167))) _
                · refine V_al0 171 d_Mo_said_170 rfl ?_
                  refine V_il2 172 d_Mo_said_171 rfl ?_
                  refine V_iconst 173 (v := 1) (by decide) d_Mo_said_172 rfl ?_
                  refine V_il1 174 d_Mo_said_173 rfl ?_
                  refine V_iconst 175 (v := 0) (by decide) d_Mo_said_174 rfl ?_
                  refine V_cV1 178 (c_Mo_finds l G _ _ hM _ hj7 _ _ _) ok_Mo_finds ml_Mo_164 im_Mo_finds se_Mo_finds (lM hM) kc_Mo (gRm_ok (by decide) (by decide)) rfl rfl (Nat.le_of_ble_eq_true rfl) d_Mo_said_175 ⟨Nat.le_of_ble_eq_true rfl, Nat.le_of_ble_eq_true rfl⟩ rfl ?_
                  refine V_pop 179 rfl d_Mo_said_178 rfl ?_
                  refine V_ii1 182 (v := 1) d_Mo_said_179 (by decide) (by decide) rfl ?_
                  refine V_goto 2 d_Mo_said_182 (by decide) ?_
                  rw [nI_1]
                  exact ih (n + 1) _ ⟨by omega, by omega⟩ (hp.tr gPm.fd) (by rw [mFd_400]; exact hab) (itN_s (F := fun z9 => z9) hT ((if_pos hs12).trans (by rw [hj9]; exact if_pos h167))) _
              · refine V_al0 117 d_Mo_said_116 rfl ?_
                refine V_getr 120 15 (lM hM) kc_Mo (by decide) fl_Mo_32 (Or.inl rfl) rfl d_Mo_said_117 rfl ?_
                refine V_il1 121 d_Mo_said_120 rfl ?_
                refine V_ialn 122 (n) (lM408 hM) rfl (by omega) (by decide) d_Mo_said_121 rfl ?_
                refine V_topi (hKn.2.2.2.2.2.1 (Or.inr hs106)) ?_
                refine V_al0 123 d_Mo_said_122 rfl ?_
                refine V_geti 126 37 (lM hM) kc_Mo (by decide) fl_Mo_150 (Or.inl rfl) rfl d_Mo_said_123 rfl ?_
                refine V_topi hab ?_
                refine V_icmp_ne 157 129 d_Mo_said_126 (by decide) rfl (fun _ => ?_) (fun h9 => absurd h9 (fun h => hs116 ((nI_eq (by have := (hKn.1.2.2.2.2.1 hs106).2.2.1; omega) (by omega)).mp h)))
                refine V_il2 158 d_Mo_said_157 rfl ?_
                refine V_if_lt 179 161 d_Mo_said_158 (by decide) rfl (fun _ => ?_) (fun h9 => absurd (show (-1 : Int32) < 0 by decide) h9)
                refine V_ii1 182 (v := 1) d_Mo_said_179 (by decide) (by decide) rfl ?_
                refine V_goto 2 d_Mo_said_182 (by decide) ?_
                rw [nI_1]
                exact ih (n + 1) _ ⟨by omega, by omega⟩ (hp.tr gPm.rf) hab (itN_s (F := fun z9 => z9) hT ((if_pos hs12).trans (by rw [show fsW (K n) o = none by rw [fsW, if_neg hs20, if_neg hs72, if_pos hs106, if_neg hs116]]))) _
            · refine V_al0 107 d_Mo_said_106 rfl ?_
              refine V_getr 110 12 (lM hM) kc_Mo (by decide) fl_Mo_23 (Or.inl rfl) rfl d_Mo_said_107 rfl ?_
              refine V_il1 111 d_Mo_said_110 rfl ?_
              refine V_ialn 112 (n) (lM405 hM) rfl (by omega) (by decide) d_Mo_said_111 rfl ?_
              refine V_topi hKn.2.2.1 ?_
              refine V_iconst 113 (v := 2) (by decide) d_Mo_said_112 rfl ?_
              refine V_icmp_ne 157 116 d_Mo_said_113 (by decide) rfl (fun _ => ?_) (fun h9 => absurd h9 (fun h => hs106 ((nI_eq (b := 2) (by have := hKn.1.2.1; omega) (by decide)).mp h)))
              refine V_il2 158 d_Mo_said_157 rfl ?_
              refine V_if_lt 179 161 d_Mo_said_158 (by decide) rfl (fun _ => ?_) (fun h9 => absurd (show (-1 : Int32) < 0 by decide) h9)
              refine V_ii1 182 (v := 1) d_Mo_said_179 (by decide) (by decide) rfl ?_
              refine V_goto 2 d_Mo_said_182 (by decide) ?_
              rw [nI_1]
              exact ih (n + 1) _ ⟨by omega, by omega⟩ (hp.tr gPm.rf) hab (itN_s (F := fun z9 => z9) hT ((if_pos hs12).trans (by rw [show fsW (K n) o = none by rw [fsW, if_neg hs20, if_neg hs72, if_neg hs106]]))) _
      · refine V_al0 13 d_Mo_said_12 rfl ?_
        refine V_il1 14 d_Mo_said_13 rfl ?_
        refine V_cV1 17 (c_Mo_holds l G _ _ hM c hc' hc n h1 hnc) ok_Mo_holds ml_Mo_147 im_Mo_holds se_Mo_holds (lM hM) kc_Mo (gRm_ok (by decide) (by decide)) rfl rfl (Nat.le_of_ble_eq_true rfl) d_Mo_said_14 ⟨Nat.le_of_ble_eq_true rfl, Nat.le_of_ble_eq_true rfl⟩ rfl ?_
        refine V_bz 64 20 d_Mo_said_17 (by decide) rfl (fun _ => ?_) (fun h9 => absurd h9 hs12)
        refine V_al0 65 d_Mo_said_64 rfl ?_
        refine V_il1 66 d_Mo_said_65 rfl ?_
        refine V_cV1 69 (c_Mo_holds l G _ _ hM c hc' hc n h1 hnc) ok_Mo_holds ml_Mo_147 im_Mo_holds se_Mo_holds (lM hM) kc_Mo (gRm_ok (by decide) (by decide)) rfl rfl (Nat.le_of_ble_eq_true rfl) d_Mo_said_66 ⟨Nat.le_of_ble_eq_true rfl, Nat.le_of_ble_eq_true rfl⟩ rfl ?_
        refine V_bz 98 72 d_Mo_said_69 (by decide) rfl (fun _ => ?_) (fun h9 => absurd h9 hs12)
        refine V_al0 99 d_Mo_said_98 rfl ?_
        refine V_il1 100 d_Mo_said_99 rfl ?_
        refine V_cV1 103 (c_Mo_holds l G _ _ hM c hc' hc n h1 hnc) ok_Mo_holds ml_Mo_147 im_Mo_holds se_Mo_holds (lM hM) kc_Mo (gRm_ok (by decide) (by decide)) rfl rfl (Nat.le_of_ble_eq_true rfl) d_Mo_said_100 ⟨Nat.le_of_ble_eq_true rfl, Nat.le_of_ble_eq_true rfl⟩ rfl ?_
        refine V_bz 157 106 d_Mo_said_103 (by decide) rfl (fun _ => ?_) (fun h9 => absurd h9 hs12)
        refine V_il2 158 d_Mo_said_157 rfl ?_
        refine V_if_lt 179 161 d_Mo_said_158 (by decide) rfl (fun _ => ?_) (fun h9 => absurd (show (-1 : Int32) < 0 by decide) h9)
        refine V_ii1 182 (v := 1) d_Mo_said_179 (by decide) (by decide) rfl ?_
        refine V_goto 2 d_Mo_said_182 (by decide) ?_
        rw [nI_1]
        exact ih (n + 1) _ ⟨by omega, by omega⟩ (hp.tr gPm.rf) hab (itN_s (F := fun z9 => z9) hT (if_neg hs12)) _
  refine gMet_of (lv := [some (.ref 400), none, none]) (by decide) rfl (Nat.le_of_ble_eq_true rfl) rfl ?_
  refine V_iconst 1 (v := 1) (by decide) d_Mo_said_0 rfl ?_
  refine V_is1 2 d_Mo_said_1 (by decide) rfl ?_
  exact lp c 1 M ⟨by omega, by omega⟩ gPm.rf ha rfl _

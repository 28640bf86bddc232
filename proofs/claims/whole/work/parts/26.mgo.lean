/-! the reference: a round, and rounds until nothing is new -/
abbrev gFm : Type := Int32 × gMe
def itP (f : Nat → gFm → gFm) : Nat → Nat → gFm → gFm
  | 0, _, q => q
  | d + 1, k, q => itP f d (k + 1) (f k q)
theorem itP_s {f : Nat → gFm → gFm} {d k : Nat} {q q1 : gFm} {F : gFm → gFm} {T : gFm} (hT : F (itP f (d + 1) k q) = T) (e : f k q = q1) : F (itP f d (k + 1) q1) = T := by
  subst e; exact hT
theorem itP_i {f : Nat → gFm → gFm} {I : gFm → Prop} (h : ∀ k q, I q → I (f k q)) : ∀ (d k : Nat) (q : gFm), I q → I (itP f d k q)
  | 0, _, _, hq => hq
  | d + 1, k, q, hq => itP_i h d (k + 1) (f k q) (h k q hq)
def orF (s v : Int32) : Int32 := bi (¬ s = 0 ∨ ¬ v = 0)
theorem orF_01 (s v : Int32) : orF s v = 0 ∨ orF s v = 1 := by
  unfold orF
  by_cases h : ¬ s = 0 ∨ ¬ v = 0
  · exact Or.inr (bi_t h)
  · exact Or.inl (bi_f h)
theorem n01 {s : Int32} (h : s = 0 ∨ s = 1) : narrow .boolean (.int s) = .int s := by
  rcases h with rfl | rfl <;> rfl
def gsT (a x r d : Nat) (q : gFm) : gFm := (orF q.1 (stR q.2 (truM a x r d) (ntR q.2 a x r d)).1, (stR q.2 (truM a x r d) (ntR q.2 a x r d)).2)
def gsM (K : Nat → Nat → Nat) (c a x r : Nat) (q : gFm) : gFm := (orF q.1 (stR q.2 (mayM a x r) (nmR q.2 K c a x r)).1, (stR q.2 (mayM a x r) (nmR q.2 K c a x r)).2)
def gsR (K : Nat → Nat → Nat) (c a x r : Nat) (q : gFm) : gFm := itP (gsT a x r) 4 0 (gsM K c a x r q)
def gsV (a x : Nat) (q : gFm) : gFm := (orF q.1 (stR q.2 (spkM a x) (nvR q.2 a x)).1, (stR q.2 (spkM a x) (nvR q.2 a x)).2)
def gsX (K : Nat → Nat → Nat) (c a x : Nat) (q : gFm) : gFm := gsV a x (itP (gsR K c a x) 4 0 q)
def gsA (K : Nat → Nat → Nat) (c a : Nat) (q : gFm) : gFm := itP (gsX K c a) 6 0 q
def goR (K : Nat → Nat → Nat) (c : Nat) (M : gMe) : gFm := itP (gsA K c) 6 0 (0, gst M 400 36 (M 400 36 + 1))
set_option maxRecDepth 100000 in
set_option maxHeartbeats 4000000 in
theorem c_Mo_goesOn (l : Launch) (G : gG) (L : gLy) (M : gMe) (hM : gLM L) (c : Nat) (hcm : M 400 10 = nI c) (hc : c < 25) (K : Nat → Nat → Nat) (hK : gMW M c K) : gMet l G y_Mo_goesOn b_Mo_goesOn 8 (some FieldType.boolean) (rmL 4 0 0) [.ref 400] L M gAll (gPo (some (.int (goR K c M).1)) L (goR K c M).2) 0 0 := by
  have lpa : ∀ (da a : Nat) (s : Int32) (M' : gMe), a + da = 6 → (s = 0 ∨ s = 1) → gPm M M' → itP (gsA K c) da a (s, M') = goR K c M → ∀ za0 za1 za2 za3 za4 : Option Value, V l G y_Mo_goesOn b_Mo_goesOn 8 (some FieldType.boolean) (rmL 4 0 0) 0 0 gAll (gPo (some (.int (goR K c M).1)) L (goR K c M).2) L (M') 0 0 [some (.ref 400), some (.int s), some (.int (nI a)), za0, za1, za2, za3, za4] 14 [] := by
    intro da
    induction da with
    | zero =>
      intro a s M' hxa h01 hp hTa za0 za1 za2 za3 za4
      obtain rfl : a = 6 := by omega
      refine V_il2 15 d_Mo_goesOn_14 rfl ?_
      refine V_bipush 17 (v := 6) (by decide) d_Mo_goesOn_15 rfl ?_
      refine V_icmp_ge 145 20 d_Mo_goesOn_17 (by decide) rfl (fun _ => ?_) (fun h9 => absurd (show (6 : Int32) ≤ nI 6 by decide) h9)
      refine V_il1 146 d_Mo_goesOn_145 rfl ?_
      exact V_zret rfl (n01 h01) d_Mo_goesOn_146 (by rw [← hTa]; exact ⟨rfl, rfl, rfl⟩)
    | succ da iha =>
      intro a s M' hxa h01 hp hTa za0 za1 za2 za3 za4
      have hla : a < 6 := by omega
      have lpx : ∀ (dx x : Nat) (s : Int32) (M' : gMe), x + dx = 6 → (s = 0 ∨ s = 1) → gPm M M' → itP (gsA K c) da (a + 1) (itP (gsX K c a) dx x (s, M')) = goR K c M → ∀ zx0 zx1 zx2 zx3 : Option Value, V l G y_Mo_goesOn b_Mo_goesOn 8 (some FieldType.boolean) (rmL 4 0 0) 0 0 gAll (gPo (some (.int (goR K c M).1)) L (goR K c M).2) L (M') 0 0 [some (.ref 400), some (.int s), some (.int (nI a)), some (.int (nI x)), zx0, zx1, zx2, zx3] 22 [] := by
        intro dx
        induction dx with
        | zero =>
          intro x s M' hxx h01 hp hTx zx0 zx1 zx2 zx3
          obtain rfl : x = 6 := by omega
          refine V_il3 23 d_Mo_goesOn_22 rfl ?_
          refine V_bipush 25 (v := 6) (by decide) d_Mo_goesOn_23 rfl ?_
          refine V_icmp_ge 139 28 d_Mo_goesOn_25 (by decide) rfl (fun _ => ?_) (fun h9 => absurd (show (6 : Int32) ≤ nI 6 by decide) h9)
          refine V_ii2 142 (v := 1) d_Mo_goesOn_139 (by decide) (by decide) rfl ?_
          refine V_goto 14 d_Mo_goesOn_142 (by decide) ?_
          rw [nI_1]
          exact iha (a + 1) _ _ (by omega) h01 hp hTx _ _ _ _ _
        | succ dx ihx =>
          intro x s M' hxx h01 hp hTx zx0 zx1 zx2 zx3
          have hlx : x < 6 := by omega
          have lpr : ∀ (dr r : Nat) (s : Int32) (M' : gMe), r + dr = 4 → (s = 0 ∨ s = 1) → gPm M M' → itP (gsA K c) da (a + 1) (itP (gsX K c a) dx (x + 1) (gsV a x (itP (gsR K c a x) dr r (s, M')))) = goR K c M → ∀ zr0 zr1 zr2 : Option Value, V l G y_Mo_goesOn b_Mo_goesOn 8 (some FieldType.boolean) (rmL 4 0 0) 0 0 gAll (gPo (some (.int (goR K c M).1)) L (goR K c M).2) L (M') 0 0 [some (.ref 400), some (.int s), some (.int (nI a)), some (.int (nI x)), some (.int (nI r)), zr0, zr1, zr2] 31 [] := by
            intro dr
            induction dr with
            | zero =>
              intro r s M' hxr h01 hp hTr zr0 zr1 zr2
              obtain rfl : r = 4 := by omega
              refine V_il4 33 d_Mo_goesOn_31 rfl ?_
              refine V_iconst 34 (v := 4) (by decide) d_Mo_goesOn_33 rfl ?_
              refine V_icmp_ge 110 37 d_Mo_goesOn_34 (by decide) rfl (fun _ => ?_) (fun h9 => absurd (show (4 : Int32) ≤ nI 4 by decide) h9)
              refine V_al0 111 d_Mo_goesOn_110 rfl ?_
              refine V_il2 112 d_Mo_goesOn_111 rfl ?_
              refine V_il3 113 d_Mo_goesOn_112 rfl ?_
              refine V_cV1 116 (c_Mo_newVoice l G _ _ hM a x hla hlx) ok_Mo_newVoice ml_Mo_177 im_Mo_newVoice se_Mo_newVoice (lM hM) kc_Mo (gRm_ok (by decide) (by decide)) rfl rfl (Nat.le_of_ble_eq_true rfl) d_Mo_goesOn_113 ⟨Nat.le_of_ble_eq_true rfl, Nat.le_of_ble_eq_true rfl⟩ rfl ?_
              refine V_is4 118 d_Mo_goesOn_116 (by decide) rfl ?_
              refine V_il1 119 d_Mo_goesOn_118 rfl ?_
              refine V_if_ne 127 122 d_Mo_goesOn_119 (by decide) rfl (fun h119 => ?_) (fun h119 => ?_)
              · refine V_iconst 128 (v := 1) (by decide) d_Mo_goesOn_127 rfl ?_
                refine V_goto 132 d_Mo_goesOn_128 (by decide) ?_
                refine V_topi (z := orF s ((stR M' (spkM a x) (nvR M' a x)).1)) (by rw [orF, bi_t (Or.inl h119)]) ?_
                refine V_is1 133 d_Mo_goesOn_132 (by decide) rfl ?_
                refine V_ii3 136 (v := 1) d_Mo_goesOn_133 (by decide) (by decide) rfl ?_
                refine V_goto 22 d_Mo_goesOn_136 (by decide) ?_
                rw [nI_1]
                exact ihx (x + 1) _ _ (by omega) (orF_01 _ _) (hp.tr gPm.sr) hTr _ _ _ _
              · refine V_il4 124 d_Mo_goesOn_122 rfl ?_
                refine V_if_eq 131 127 d_Mo_goesOn_124 (by decide) rfl (fun h124 => ?_) (fun h124 => ?_)
                · refine V_iconst 132 (v := 0) (by decide) d_Mo_goesOn_131 rfl ?_
                  refine V_topi (z := orF s ((stR M' (spkM a x) (nvR M' a x)).1)) (by rw [orF, bi_f (fun h => h.elim (fun e => e h119) (fun e => e h124))]) ?_
                  refine V_is1 133 d_Mo_goesOn_132 (by decide) rfl ?_
                  refine V_ii3 136 (v := 1) d_Mo_goesOn_133 (by decide) (by decide) rfl ?_
                  refine V_goto 22 d_Mo_goesOn_136 (by decide) ?_
                  rw [nI_1]
                  exact ihx (x + 1) _ _ (by omega) (orF_01 _ _) (hp.tr gPm.sr) hTr _ _ _ _
                · refine V_iconst 128 (v := 1) (by decide) d_Mo_goesOn_127 rfl ?_
                  refine V_goto 132 d_Mo_goesOn_128 (by decide) ?_
                  refine V_topi (z := orF s ((stR M' (spkM a x) (nvR M' a x)).1)) (by rw [orF, bi_t (Or.inr h124)]) ?_
                  refine V_is1 133 d_Mo_goesOn_132 (by decide) rfl ?_
                  refine V_ii3 136 (v := 1) d_Mo_goesOn_133 (by decide) (by decide) rfl ?_
                  refine V_goto 22 d_Mo_goesOn_136 (by decide) ?_
                  rw [nI_1]
                  exact ihx (x + 1) _ _ (by omega) (orF_01 _ _) (hp.tr gPm.sr) hTr _ _ _ _
            | succ dr ihr =>
              intro r s M' hxr h01 hp hTr zr0 zr1 zr2
              have hlr : r < 4 := by omega
              have lpd : ∀ (dd d : Nat) (s : Int32) (M' : gMe), d + dd = 4 → (s = 0 ∨ s = 1) → gPm M M' → itP (gsA K c) da (a + 1) (itP (gsX K c a) dx (x + 1) (gsV a x (itP (gsR K c a x) dr (r + 1) (itP (gsT a x r) dd d (s, M'))))) = goR K c M → ∀ zd0 zd1 : Option Value, V l G y_Mo_goesOn b_Mo_goesOn 8 (some FieldType.boolean) (rmL 4 0 0) 0 0 gAll (gPo (some (.int (goR K c M).1)) L (goR K c M).2) L (M') 0 0 [some (.ref 400), some (.int s), some (.int (nI a)), some (.int (nI x)), some (.int (nI r)), zd0, some (.int (nI d)), zd1] 65 [] := by
                intro dd
                induction dd with
                | zero =>
                  intro d s M' hxd h01 hp hTd zd0 zd1
                  obtain rfl : d = 4 := by omega
                  refine V_il6 67 d_Mo_goesOn_65 rfl ?_
                  refine V_iconst 68 (v := 4) (by decide) d_Mo_goesOn_67 rfl ?_
                  refine V_icmp_ge 104 71 d_Mo_goesOn_68 (by decide) rfl (fun _ => ?_) (fun h9 => absurd (show (4 : Int32) ≤ nI 4 by decide) h9)
                  refine V_ii4 107 (v := 1) d_Mo_goesOn_104 (by decide) (by decide) rfl ?_
                  refine V_goto 31 d_Mo_goesOn_107 (by decide) ?_
                  rw [nI_1]
                  exact ihr (r + 1) _ _ (by omega) h01 hp hTd _ _ _
                | succ dd ihd =>
                  intro d s M' hxd h01 hp hTd zd0 zd1
                  have hld : d < 4 := by omega
                  refine V_il6 67 d_Mo_goesOn_65 rfl ?_
                  refine V_iconst 68 (v := 4) (by decide) d_Mo_goesOn_67 rfl ?_
                  refine V_icmp_ge 104 71 d_Mo_goesOn_68 (by decide) rfl (fun h9 => absurd h9 (nI_ge (b := 4) hld (by decide))) (fun _ => ?_)
                  refine V_al0 72 d_Mo_goesOn_71 rfl ?_
                  refine V_il2 73 d_Mo_goesOn_72 rfl ?_
                  refine V_il3 74 d_Mo_goesOn_73 rfl ?_
                  refine V_il4 76 d_Mo_goesOn_74 rfl ?_
                  refine V_il6 78 d_Mo_goesOn_76 rfl ?_
                  refine V_cV1 81 (c_Mo_newTrust l G _ _ hM a x r d hla hlx hlr hld) ok_Mo_newTrust ml_Mo_174 im_Mo_newTrust se_Mo_newTrust (lM hM) kc_Mo (gRm_ok (by decide) (by decide)) rfl rfl (Nat.le_of_ble_eq_true rfl) d_Mo_goesOn_78 ⟨Nat.le_of_ble_eq_true rfl, Nat.le_of_ble_eq_true rfl⟩ rfl ?_
                  refine V_is7 83 d_Mo_goesOn_81 (by decide) rfl ?_
                  refine V_il1 84 d_Mo_goesOn_83 rfl ?_
                  refine V_if_ne 92 87 d_Mo_goesOn_84 (by decide) rfl (fun h84 => ?_) (fun h84 => ?_)
                  · refine V_iconst 93 (v := 1) (by decide) d_Mo_goesOn_92 rfl ?_
                    refine V_goto 97 d_Mo_goesOn_93 (by decide) ?_
                    refine V_topi (z := orF s ((stR M' (truM a x r d) (ntR M' a x r d)).1)) (by rw [orF, bi_t (Or.inl h84)]) ?_
                    refine V_is1 98 d_Mo_goesOn_97 (by decide) rfl ?_
                    refine V_ii6 101 (v := 1) d_Mo_goesOn_98 (by decide) (by decide) rfl ?_
                    refine V_goto 65 d_Mo_goesOn_101 (by decide) ?_
                    rw [nI_1]
                    exact ihd (d + 1) _ _ (by omega) (orF_01 _ _) (hp.tr gPm.sr) (itP_s (F := fun z9 => itP (gsA K c) da (a + 1) (itP (gsX K c a) dx (x + 1) (gsV a x (itP (gsR K c a x) dr (r + 1) (z9))))) hTd rfl) _ _
                  · refine V_il7 89 d_Mo_goesOn_87 rfl ?_
                    refine V_if_eq 96 92 d_Mo_goesOn_89 (by decide) rfl (fun h89 => ?_) (fun h89 => ?_)
                    · refine V_iconst 97 (v := 0) (by decide) d_Mo_goesOn_96 rfl ?_
                      refine V_topi (z := orF s ((stR M' (truM a x r d) (ntR M' a x r d)).1)) (by rw [orF, bi_f (fun h => h.elim (fun e => e h84) (fun e => e h89))]) ?_
                      refine V_is1 98 d_Mo_goesOn_97 (by decide) rfl ?_
                      refine V_ii6 101 (v := 1) d_Mo_goesOn_98 (by decide) (by decide) rfl ?_
                      refine V_goto 65 d_Mo_goesOn_101 (by decide) ?_
                      rw [nI_1]
                      exact ihd (d + 1) _ _ (by omega) (orF_01 _ _) (hp.tr gPm.sr) (itP_s (F := fun z9 => itP (gsA K c) da (a + 1) (itP (gsX K c a) dx (x + 1) (gsV a x (itP (gsR K c a x) dr (r + 1) (z9))))) hTd rfl) _ _
                    · refine V_iconst 93 (v := 1) (by decide) d_Mo_goesOn_92 rfl ?_
                      refine V_goto 97 d_Mo_goesOn_93 (by decide) ?_
                      refine V_topi (z := orF s ((stR M' (truM a x r d) (ntR M' a x r d)).1)) (by rw [orF, bi_t (Or.inr h89)]) ?_
                      refine V_is1 98 d_Mo_goesOn_97 (by decide) rfl ?_
                      refine V_ii6 101 (v := 1) d_Mo_goesOn_98 (by decide) (by decide) rfl ?_
                      refine V_goto 65 d_Mo_goesOn_101 (by decide) ?_
                      rw [nI_1]
                      exact ihd (d + 1) _ _ (by omega) (orF_01 _ _) (hp.tr gPm.sr) (itP_s (F := fun z9 => itP (gsA K c) da (a + 1) (itP (gsX K c a) dx (x + 1) (gsV a x (itP (gsR K c a x) dr (r + 1) (z9))))) hTd rfl) _ _
              refine V_il4 33 d_Mo_goesOn_31 rfl ?_
              refine V_iconst 34 (v := 4) (by decide) d_Mo_goesOn_33 rfl ?_
              refine V_icmp_ge 110 37 d_Mo_goesOn_34 (by decide) rfl (fun h9 => absurd h9 (nI_ge (b := 4) hlr (by decide))) (fun _ => ?_)
              refine V_al0 38 d_Mo_goesOn_37 rfl ?_
              refine V_il2 39 d_Mo_goesOn_38 rfl ?_
              refine V_il3 40 d_Mo_goesOn_39 rfl ?_
              refine V_il4 42 d_Mo_goesOn_40 rfl ?_
              refine V_cV1 45 (c_Mo_newMay l G _ _ hM c (by rw [hp.2 10 (by decide) (by decide) (by decide)]; exact hcm) hc K (hK.mv hp) a x r hla hlx hlr) ok_Mo_newMay ml_Mo_171 im_Mo_newMay se_Mo_newMay (lM hM) kc_Mo (gRm_ok (by decide) (by decide)) rfl rfl (Nat.le_of_ble_eq_true rfl) d_Mo_goesOn_42 ⟨Nat.le_of_ble_eq_true rfl, Nat.le_of_ble_eq_true rfl⟩ rfl ?_
              refine V_is5 47 d_Mo_goesOn_45 (by decide) rfl ?_
              refine V_il1 48 d_Mo_goesOn_47 rfl ?_
              refine V_if_ne 56 51 d_Mo_goesOn_48 (by decide) rfl (fun h48 => ?_) (fun h48 => ?_)
              · refine V_iconst 57 (v := 1) (by decide) d_Mo_goesOn_56 rfl ?_
                refine V_goto 61 d_Mo_goesOn_57 (by decide) ?_
                refine V_topi (z := orF s ((stR M' (mayM a x r) (nmR M' K c a x r)).1)) (by rw [orF, bi_t (Or.inl h48)]) ?_
                refine V_is1 62 d_Mo_goesOn_61 (by decide) rfl ?_
                refine V_iconst 63 (v := 0) (by decide) d_Mo_goesOn_62 rfl ?_
                refine V_is6 65 d_Mo_goesOn_63 (by decide) rfl ?_
                exact lpd 4 0 _ _ (by decide) (orF_01 _ _) (hp.tr gPm.sr) (itP_s (F := fun z9 => itP (gsA K c) da (a + 1) (itP (gsX K c a) dx (x + 1) (gsV a x (z9)))) hTr rfl) _ _
              · refine V_il5 53 d_Mo_goesOn_51 rfl ?_
                refine V_if_eq 60 56 d_Mo_goesOn_53 (by decide) rfl (fun h53 => ?_) (fun h53 => ?_)
                · refine V_iconst 61 (v := 0) (by decide) d_Mo_goesOn_60 rfl ?_
                  refine V_topi (z := orF s ((stR M' (mayM a x r) (nmR M' K c a x r)).1)) (by rw [orF, bi_f (fun h => h.elim (fun e => e h48) (fun e => e h53))]) ?_
                  refine V_is1 62 d_Mo_goesOn_61 (by decide) rfl ?_
                  refine V_iconst 63 (v := 0) (by decide) d_Mo_goesOn_62 rfl ?_
                  refine V_is6 65 d_Mo_goesOn_63 (by decide) rfl ?_
                  exact lpd 4 0 _ _ (by decide) (orF_01 _ _) (hp.tr gPm.sr) (itP_s (F := fun z9 => itP (gsA K c) da (a + 1) (itP (gsX K c a) dx (x + 1) (gsV a x (z9)))) hTr rfl) _ _
                · refine V_iconst 57 (v := 1) (by decide) d_Mo_goesOn_56 rfl ?_
                  refine V_goto 61 d_Mo_goesOn_57 (by decide) ?_
                  refine V_topi (z := orF s ((stR M' (mayM a x r) (nmR M' K c a x r)).1)) (by rw [orF, bi_t (Or.inr h53)]) ?_
                  refine V_is1 62 d_Mo_goesOn_61 (by decide) rfl ?_
                  refine V_iconst 63 (v := 0) (by decide) d_Mo_goesOn_62 rfl ?_
                  refine V_is6 65 d_Mo_goesOn_63 (by decide) rfl ?_
                  exact lpd 4 0 _ _ (by decide) (orF_01 _ _) (hp.tr gPm.sr) (itP_s (F := fun z9 => itP (gsA K c) da (a + 1) (itP (gsX K c a) dx (x + 1) (gsV a x (z9)))) hTr rfl) _ _
          refine V_il3 23 d_Mo_goesOn_22 rfl ?_
          refine V_bipush 25 (v := 6) (by decide) d_Mo_goesOn_23 rfl ?_
          refine V_icmp_ge 139 28 d_Mo_goesOn_25 (by decide) rfl (fun h9 => absurd h9 (nI_ge (b := 6) hlx (by decide))) (fun _ => ?_)
          refine V_iconst 29 (v := 0) (by decide) d_Mo_goesOn_28 rfl ?_
          refine V_is4 31 d_Mo_goesOn_29 (by decide) rfl ?_
          exact lpr 4 0 _ _ (by decide) h01 hp hTx _ _ _
      refine V_il2 15 d_Mo_goesOn_14 rfl ?_
      refine V_bipush 17 (v := 6) (by decide) d_Mo_goesOn_15 rfl ?_
      refine V_icmp_ge 145 20 d_Mo_goesOn_17 (by decide) rfl (fun h9 => absurd h9 (nI_ge (b := 6) hla (by decide))) (fun _ => ?_)
      refine V_iconst 21 (v := 0) (by decide) d_Mo_goesOn_20 rfl ?_
      refine V_is3 22 d_Mo_goesOn_21 (by decide) rfl ?_
      exact lpx 6 0 _ _ (by decide) h01 hp hTa _ _ _ _
  refine gMet_of (lv := [some (.ref 400), none, none, none, none, none, none, none]) (by decide) rfl (Nat.le_of_ble_eq_true rfl) rfl ?_
  refine V_iconst 1 (v := 0) (by decide) d_Mo_goesOn_0 rfl ?_
  refine V_is1 2 d_Mo_goesOn_1 (by decide) rfl ?_
  refine V_al0 3 d_Mo_goesOn_2 rfl ?_
  refine V_dup 4 rfl d_Mo_goesOn_3 rfl ?_
  refine V_geti 7 36 (lM hM) kc_Mo (by decide) fl_Mo_144 (Or.inl rfl) rfl d_Mo_goesOn_4 rfl ?_
  refine V_iconst 8 (v := 1) (by decide) d_Mo_goesOn_7 rfl ?_
  refine V_iadd 9 d_Mo_goesOn_8 rfl ?_
  refine V_puti 12 36 (lM hM) kc_Mo (by decide) fl_Mo_144 (Or.inl rfl) rfl rfl rfl rfl d_Mo_goesOn_9 rfl ?_
  refine V_iconst 13 (v := 0) (by decide) d_Mo_goesOn_12 rfl ?_
  refine V_is2 14 d_Mo_goesOn_13 (by decide) rfl ?_
  exact lpa 6 0 0 _ (by decide) (Or.inl rfl) (gPm.fl (by decide)) rfl _ _ _ _ _

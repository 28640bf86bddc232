/-! the class: submit's good end, as the law needs it -/
def eP (c : Nat) : Nat := if c = 0 then 0 else if c ≤ 10 then 26 else if c ≤ 15 then 27 else if c ≤ 22 then 28 else 29
def caP (c : Nat) : Nat := if c = 0 then 0 else if c ≤ 10 then 10 else if c ≤ 15 then 15 else if c ≤ 22 then 22 else 33
/-- how the class's memory lies where c credentials are held -/
def gLY (L : gLy) (c : Nat) : Prop := gLC L ∧ gLE L c (eP c) (caP c) ∧ (∀ q, 26 ≤ q → q < 30 → eP c < q → L q = none) ∧ (∀ q, cP (c + 1) ≤ q → q < 400 → L q = none) ∧ gN1 L
theorem sbL_n1 {L : gLy} {a : Nat} (h : gN1 L) (ha : 1 ≤ a) : gN1 (sbL L a) := by
  unfold sbL crL
  refine gN1_up (gN1_up (gN1_up h ?_) ?_) ?_
  · intro h9; simp [gRf, crF0] at h9
  · intro h9; exact h9
  · intro h9; simp [gRf] at h9; omega
theorem lsF_n1 {t n c : Nat} : ¬ gRf (.inl (t, n, some (some (lsF c)))) 1 := fun h => by
  obtain ⟨q, hq⟩ := h
  obtain ⟨k, -, -, h9⟩ := lsF_n hq
  unfold cP at h9; omega
theorem gLY_take {L L1 L' : gLy} {c : Nat} (hY : gLY L c) (h24 : c < 24) (e1 : L1 = sbL L (cP (c + 1))) (h : ∀ q, q ≠ 5 → (q < 26 ∨ 30 ≤ q) → L' q = L1 q) (h5 : L' 5 = l5 (eP (c + 1))) (he : L' (eP (c + 1)) = some (.inl (4, caP (c + 1), some (some (lsF (c + 1)))))) (hno : ∀ q, 26 ≤ q → q < 30 → eP (c + 1) < q → L' q = none) (h1 : gN1 L') : gLY L' (c + 1) := by
  obtain ⟨y1, y2, y3, y4, y5⟩ := hY
  subst e1
  have ha : 202 ≤ cP (c + 1) ∧ cP (c + 1 + 1) = cP (c + 1) + 2 ∧ cP (c + 1) ≤ 248 := by unfold cP; omega
  have hq : ∀ q, q ≠ 5 → (q < 26 ∨ 30 ≤ q) → q ≠ cP (c + 1) → q ≠ cP (c + 1) + 1 → L' q = L q := fun q a b c9 d => (h q a b).trans (sbL_ne c9 d)
  refine ⟨gLC_eq y1 (fun x a b c9 d => hq x c9 d (by omega) (by omega)), ⟨h5, fun _ => ⟨he, ?_⟩, fun n a b => ?_⟩, hno, fun q a b => ?_, h1⟩
  · unfold caP
    constructor
    · split
      · omega
      · split
        · omega
        · split
          · omega
          · split <;> omega
    · split
      · omega
      · split
        · omega
        · split
          · omega
          · split <;> omega
  · by_cases hn : n = c + 1
    · subst hn
      have h9 : gLR (sbL L (cP (c + 1))) (cP (c + 1)) (cP (c + 1) + 1) := sbLR
      exact ⟨(h _ (by omega) (by omega)).trans h9.1, (h _ (by omega) (by omega)).trans h9.2⟩
    · have h9 := y2.2.2 n a (by omega)
      have h8 : 202 ≤ cP n ∧ cP n + 1 < cP (c + 1) := by unfold cP; omega
      exact ⟨(hq _ (by omega) (by omega) (by omega) (by omega)).trans h9.1, (hq _ (by omega) (by omega) (by omega) (by omega)).trans h9.2⟩
  · rw [hq q (by omega) (by omega) (by omega) (by omega)]; exact y4 q (by omega) b
/-- what the memory is behind it -/
def sbQ (M M' : gMe) (c : Nat) (i k f t : Int32) : Prop := (∀ q, q ≠ 5 → q ≠ 23 → (q < 26 ∨ 400 ≤ q ∨ (202 ≤ q ∧ q < cP (c + 1))) → M' q = M q) ∧ M' 23 = fzM M 23 ∧ M' 5 1 = nI (c + 1) ∧ M' (cP (c + 1)) = sb1 M (cP (c + 1)) i k f t (cP (c + 1)) ∧ M' (cP (c + 1) + 1) = sb1 M (cP (c + 1)) i k f t (cP (c + 1) + 1)
theorem sb2_23 (M : gMe) (a : Nat) (i k f t : Int32) (ha : 200 ≤ a) : sb2 M a i k f t 23 = fzM M 23 := by
  unfold sb2 fzM
  rw [sb1_ne (q := 23) (by omega) (by omega)]
  split
  · exact sb1_ne (by omega) (by omega)
  · rw [gst_same, gst_same, sb1_ne (q := 23) (by omega) (by omega)]
theorem sbQ_of {M M' : gMe} {c : Nat} {i k f t : Int32} (h24 : c < 24) (h : ∀ q, q ≠ 5 → (q < 26 ∨ 30 ≤ q) → M' q = sb2 M (cP (c + 1)) i k f t q) (h5 : M' 5 1 = nI (c + 1)) : sbQ M M' c i k f t := by
  have ha : 202 ≤ cP (c + 1) ∧ cP (c + 1) ≤ 248 := by unfold cP; omega
  refine ⟨fun q a b d => ?_, ?_, h5, ?_, ?_⟩
  · rw [h q a (by omega)]; unfold sb2; rw [fzM_ne b]; exact sb1_ne (by omega) (by omega)
  · rw [h 23 (by decide) (by decide)]; exact sb2_23 M _ i k f t (by omega)
  · rw [h _ (by omega) (by omega)]; unfold sb2; rw [fzM_ne (by omega)]
  · rw [h _ (by omega) (by omega)]; unfold sb2; rw [fzM_ne (by omega)]
theorem eP_lt (c : Nat) : eP c < 30 := by unfold eP; split; omega; split; omega; split; omega; split <;> omega
set_option maxRecDepth 100000 in
set_option maxHeartbeats 4000000 in
theorem s_Ga_submit (l : Launch) (G : gG) (L : gLy) (M : gMe) (hal : gAL G) (c : Nat) (hY : gLY L c) (hsz : M 5 1 = nI c) (h24 : c < 24) (i k f t s : Int32) (hw : pWf (sb1 M (cP (c + 1)) i k f t) (cP (c + 1)) (cP (c + 1) + 1)) (hse : soI (sb1 M (cP (c + 1)) i k f t) (cP (c + 1)) (cP (c + 1) + 1) = s) (hb : fzB M = 0) : ∃ (L' : gLy) (M' : gMe) (Z : Nat → Prop), (∀ x, x < 26 ∨ 400 ≤ x → Z x) ∧ gMet l G y_Ga_submit b_Ga_submit 7 (some FieldType.int) (rmL 9 3 43) [.ref 2, .int i, .int k, .int f, .int t, .int s] L M Z (gPo (some (.int (nI (c + 1)))) L' M') 3 43 ∧ gLY L' (c + 1) ∧ (∀ q, 400 ≤ q → L' q = L q) ∧ sbQ M M' c i k f t := by
  have hY9 := hY
  obtain ⟨y1, y2, y3, y4, y5⟩ := hY
  have hcp : 202 ≤ cP (c + 1) ∧ cP (c + 1) ≤ 248 := by unfold cP; omega
  have he := eP_lt c
  have ha := y4 (cP (c + 1)) (Nat.le_refl _) (by omega)
  have hn := y4 (cP (c + 1) + 1) (by omega) (by omega)
  have hqL : ∀ q, q < 200 → sbL L (cP (c + 1)) q = L q := fun q hq => sbL_ne (by omega) (by omega)
  have h1 : gN1 (sbL L (cP (c + 1))) := sbL_n1 y5 (by omega)
  have hm5 : ∀ v, gst (sb2 M (cP (c + 1)) i k f t) 5 2 v 5 1 = nI c := fun v => by
    rw [gst_same]
    show upd (sb2 M (cP (c + 1)) i k f t 5) 2 v 1 = nI c
    rw [show upd (sb2 M (cP (c + 1)) i k f t 5) 2 v 1 = sb2 M (cP (c + 1)) i k f t 5 1 from by simp [upd]]
    unfold sb2
    rw [fzM_ne (by decide), sb1_ne (by omega) (by omega)]; exact hsz
  have h5b : sbL L (cP (c + 1)) 5 = l5 (eP c) := (hqL 5 (by decide)).trans y2.1
  by_cases h0 : c = 0
  · subst h0
    have hfr : sbL L (cP (0 + 1)) 26 = none := (hqL 26 (by decide)).trans (y3 26 (by decide) (by decide) (by decide))
    have hg : gGr l G (sbL L (cP (0 + 1))) (gst (sb2 M (cP (0 + 1)) i k f t) 5 2 (sb2 M (cP (0 + 1)) i k f t 5 2 + 1)) 0 26 10 := c_AL_grow2_F l G _ _ hal 26 h5b hfr (by decide)
    have hA := c_AL_add2_F l G (sbL L (cP (0 + 1))) _ 26 0 10 hal h5b rfl hfr (by decide) (hm5 _) hg (by decide) (by decide) sbLR
    have hlay : gLY (adL (grL (sbL L (cP (0 + 1))) 26 10 0) 26 10 0) (0 + 1) := gLY_take hY9 h24 rfl (fun q a b => (va_up_ne _ _ (by omega)).trans ((va_up_ne _ _ a).trans (va_up_ne _ _ (by omega)))) ((va_up_ne _ _ (by decide)).trans (va_up_self _ _ _)) (va_up_self _ _ _) (fun q a b d => (va_up_ne _ _ (by have : eP (0 + 1) = 26 := rfl; omega)).trans ((va_up_ne _ _ (by omega)).trans ((va_up_ne _ _ (by have : eP (0 + 1) = 26 := rfl; omega)).trans ((hqL q (by omega)).trans (y3 q a b (by have : eP 0 = 0 := rfl; omega)))))) (gN1_up (gN1_up (gN1_up h1 lsF_n1) (fun h9 => by simp [gRf] at h9)) lsF_n1)
    have hs5 : (gst (va_up (gst (sb2 M (cP (0 + 1)) i k f t) 5 2 (sb2 M (cP (0 + 1)) i k f t 5 2 + 1)) 26 (fun _ => 0)) 5 1 (nI (0 + 1))) 5 1 = nI (0 + 1) := by rw [gst_same]; simp [upd]
    refine ⟨_, _, _, ?_, c_Ga_submit l G L M y1 hal.1 0 (eP 0) (caP 0) y2 hsz h24 (by omega) ha hn i k f t s hw hse hb _ _ 6 1 10 (by decide) (by decide) (by decide) (fun x => x ≠ 26) (fun x hx => ?_) hA (lC4 hlay.1) hlay.2.1.h hs5, hlay, fun q hq => (va_up_ne _ _ (by omega)).trans ((va_up_ne _ _ (by omega)).trans ((va_up_ne _ _ (by omega)).trans (sbL_ne (by omega) (by omega)))), sbQ_of h24 (fun q a b => ?_) hs5⟩
    · intro x hx; exact ⟨fun h9 => (by omega), by omega, by omega⟩
    · show x ≠ 26
      omega
    · rw [gst_ne _ _ _ _ a, va_up_ne _ _ (by omega), gst_ne _ _ _ _ a]
  · have hle := y2.2.1 (by omega)
    by_cases hful : c = caP c
    · have hc3 : c = 10 ∨ c = 15 ∨ c = 22 := by
        unfold caP at hful
        rw [if_neg h0] at hful
        split at hful
        · omega
        · split at hful
          · omega
          · split at hful <;> omega
      have he' : eP (c + 1) = eP c + 1 ∧ caP (c + 1) = c + c / 2 ∧ 26 ≤ eP c ∧ eP c + 1 < 30 := by rcases hc3 with rfl | rfl | rfl <;> decide
      obtain ⟨q1, q2, q3, q4⟩ := he'
      have hfr : sbL L (cP (c + 1)) (eP c + 1) = none := (hqL _ (by omega)).trans (y3 _ (by omega) q4 (by omega))
      have hLe : sbL L (cP (c + 1)) (eP c) = some (.inl (4, c, some (some (lsF c)))) := (hqL _ (by omega)).trans (by rw [hle.1, ← hful])
      have hcr : gCrs (sbL L (cP (c + 1))) c := gCrs_eq y2.2.2 (fun x a b => sbL_ne (by omega) (by omega))
      have hg : gGr l G (sbL L (cP (c + 1))) (gst (sb2 M (cP (c + 1)) i k f t) 5 2 (sb2 M (cP (c + 1)) i k f t 5 2 + 1)) c (eP c + 1) (c + c / 2) := c_AL_grow2_G l G _ _ hal h1 (eP c) (eP c + 1) c (by omega) (by omega) (by omega) h5b hLe hcr hfr (by omega)
      have hA := c_AL_add2_G l G (sbL L (cP (c + 1))) _ (eP c) (eP c + 1) c (c + c / 2) h5b hLe (by omega) hfr (by omega) (hm5 _) hg (by omega) (by omega) sbLR
      have hlay : gLY (adL (grL (sbL L (cP (c + 1))) (eP c + 1) (c + c / 2) c) (eP c + 1) (c + c / 2) c) (c + 1) := gLY_take hY9 h24 rfl (fun q a b => (va_up_ne _ _ (by omega)).trans ((va_up_ne _ _ a).trans (va_up_ne _ _ (by omega)))) ((va_up_ne _ _ (by omega)).trans ((va_up_self _ _ _).trans (by rw [q1]))) (by rw [q1, q2]; exact va_up_self _ _ _) (fun q a b d => (va_up_ne _ _ (by omega)).trans ((va_up_ne _ _ (by omega)).trans ((va_up_ne _ _ (by omega)).trans ((hqL q (by omega)).trans (y3 q a b (by omega)))))) (gN1_up (gN1_up (gN1_up h1 lsF_n1) (fun h9 => by simp [gRf] at h9; omega)) lsF_n1)
      have hs5 : (gst (va_up (gst (sb2 M (cP (c + 1)) i k f t) 5 2 (sb2 M (cP (c + 1)) i k f t 5 2 + 1)) (eP c + 1) (fun _ => 0)) 5 1 (nI (c + 1))) 5 1 = nI (c + 1) := by rw [gst_same]; simp [upd]
      refine ⟨_, _, _, ?_, c_Ga_submit l G L M y1 hal.1 c (eP c) (caP c) y2 hsz h24 (by omega) ha hn i k f t s hw hse hb _ _ 6 1 (c + c / 2) (by decide) (by decide) (by omega) (fun x => x ≠ eP c + 1) (fun x hx => ?_) hA (lC4 hlay.1) hlay.2.1.h hs5, hlay, fun q hq => (va_up_ne _ _ (by omega)).trans ((va_up_ne _ _ (by omega)).trans ((va_up_ne _ _ (by omega)).trans (sbL_ne (by omega) (by omega)))), sbQ_of h24 (fun q a b => ?_) hs5⟩
      · intro x hx; exact ⟨fun h9 => (by omega), by omega, by omega⟩
      · show x ≠ eP c + 1
        omega
      · rw [gst_ne _ _ _ _ a, va_up_ne _ _ (by omega), gst_ne _ _ _ _ a]
    · have hlt : c < caP c := by omega
      have he' : eP (c + 1) = eP c ∧ caP (c + 1) = caP c ∧ 26 ≤ eP c := by
        have h9 : ∀ c, c < 24 → ¬ c = 0 → c < caP c → eP (c + 1) = eP c ∧ caP (c + 1) = caP c ∧ 26 ≤ eP c := by decide +kernel
        exact h9 c h24 h0 hlt
      obtain ⟨q1, q2, q3⟩ := he'
      have hLe : sbL L (cP (c + 1)) (eP c) = some (.inl (4, caP c, some (some (lsF c)))) := (hqL _ (by omega)).trans hle.1
      have hA := c_AL_add2_R l G (sbL L (cP (c + 1))) (gst (sb2 M (cP (c + 1)) i k f t) 5 2 (sb2 M (cP (c + 1)) i k f t 5 2 + 1)) (eP c) (caP c) c hlt (by omega) h5b hLe sbLR
      have hlay : gLY (adL (sbL L (cP (c + 1))) (eP c) (caP c) c) (c + 1) := gLY_take hY9 h24 rfl (fun q a b => va_up_ne _ _ (by omega)) ((va_up_ne _ _ (by omega)).trans (by rw [q1]; exact h5b)) (by rw [q1, q2]; exact va_up_self _ _ _) (fun q a b d => (va_up_ne _ _ (by omega)).trans ((hqL q (by omega)).trans (y3 q a b (by omega)))) (gN1_up h1 lsF_n1)
      have hs5 : (gst (gst (sb2 M (cP (c + 1)) i k f t) 5 2 (sb2 M (cP (c + 1)) i k f t 5 2 + 1)) 5 1 (nI (c + 1))) 5 1 = nI (c + 1) := by rw [gst_same]; simp [upd]
      refine ⟨_, _, _, ?_, c_Ga_submit l G L M y1 hal.1 c (eP c) (caP c) y2 hsz h24 (by omega) ha hn i k f t s hw hse hb _ _ 1 0 0 (by decide) (by decide) (by decide) gAll (fun x hx => trivial) hA (lC4 hlay.1) hlay.2.1.h hs5, hlay, fun q hq => (va_up_ne _ _ (by omega)).trans (sbL_ne (by omega) (by omega)), sbQ_of h24 (fun q a b => ?_) hs5⟩
      · intro x hx; exact ⟨trivial, by omega, by omega⟩
      · rw [gst_ne _ _ _ _ a, gst_ne _ _ _ _ a]

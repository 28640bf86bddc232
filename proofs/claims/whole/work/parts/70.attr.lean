/-! the reference's rounds, as attempts -/
def oR (N0 : gMe) (q : gFm) : Prop := gKq N0 q.2 ∧ (∀ j, (¬ N0 421 j ≤ 0 → q.2 421 j = N0 421 j) ∧ (N0 421 j ≤ 0 → q.2 421 j = N0 421 j ∨ q.2 421 j = N0 400 36)) ∧ (∀ j, j < 756 → q.2 421 j ≤ 0 → q.2 421 j = 0) ∧ ((q.1 = 0 ∧ ∀ j, q.2 421 j = N0 421 j) ∨ (q.1 = 1 ∧ ∃ j, j < 756 ∧ N0 421 j = 0 ∧ ¬ q.2 421 j = 0))
theorem oR.now {N0 : gMe} {q : gFm} (h : oR N0 q) : q.2 400 = N0 400 := h.1 400 (by decide)
theorem oR.had {N0 : gMe} {q : gFm} (h : oR N0 q) (j : Nat) : pHad q.2 j ↔ pHad N0 j := by
  have h2 := h.2.1 j
  unfold pHad
  rw [h.now]
  by_cases e : N0 421 j ≤ 0
  · rcases h2.2 e with h9 | h9
    · rw [h9]
    · rw [h9]
      exact ⟨fun q => absurd (Int32.le_refl _) q.2, fun q => absurd e q.1⟩
  · rw [h2.1 e]
theorem oR.ho {N0 : gMe} {q : gFm} (h : oR N0 q) (n : Nat) : pHo q.2 n ↔ pHo N0 n := by
  unfold pHo
  rw [h.1 412 (by decide), h.1 410 (by decide), h.1 411 (by decide), h.now]
theorem mFd_at (M : gMe) (t : Nat) (u f z : Int32) : (mFd M t u f z 421 = upd (M 421) t (M 400 36)) ∧ (mFd M t u f z 422 = upd (M 422) t u) ∧ (mFd M t u f z 423 = upd (M 423) t f) ∧ (mFd M t u f z 424 = upd (M 424) t z) := by
  unfold mFd
  refine ⟨?_, ?_, ?_, ?_⟩
  · rw [gst_ne _ _ _ _ (by decide), gst_ne _ _ _ _ (by decide), gst_ne _ _ _ _ (by decide), gst_same]
  · rw [gst_ne _ _ _ _ (by decide), gst_ne _ _ _ _ (by decide), gst_same, gst_ne _ _ _ _ (by decide)]
  · rw [gst_ne _ _ _ _ (by decide), gst_same, gst_ne _ _ _ _ (by decide), gst_ne _ _ _ _ (by decide)]
  · rw [gst_same, gst_ne _ _ _ _ (by decide), gst_ne _ _ _ _ (by decide), gst_ne _ _ _ _ (by decide)]
/-- a fact is found -/
theorem oR.found {N0 : gMe} {q : gFm} (h : oR N0 q) (hw : 0 < N0 400 36) {t : Nat} (ht : t < 756) (h0 : q.2 421 t = 0) (u f z : Int32) : oR N0 (1, mFd q.2 t u f z) ∧ ∀ j, j < 756 → (¬ q.2 421 j = 0 → gSm 421 q.2 (mFd q.2 t u f z) j) ∧ (q.2 421 j = 0 → gTk 421 (N0 400 36) (mFd q.2 t u f z) j (tR t (u, f, z) j)) := by
  obtain ⟨e1, e2, e3, e4⟩ := mFd_at q.2 t u f z
  have hnow := h.now
  obtain ⟨h1, h2, h3, h4⟩ := h
  have hm0 : N0 421 t = 0 := by
    by_cases e : N0 421 t ≤ 0
    · rcases (h2 t).2 e with h9 | h9
      · rw [← h9]; exact h0
      · rw [h0] at h9; rw [← h9] at hw; exact absurd hw (by decide)
    · rw [← (h2 t).1 e]; exact h0
  have hwn : ¬ N0 400 36 = 0 := fun e => by rw [e] at hw; exact absurd hw (by decide)
  refine ⟨⟨fun b hb => (mFd_kq b hb).trans (h1 b hb), fun j => ?_, fun j hj hle => ?_, Or.inr ⟨rfl, t, ht, hm0, by show ¬ mFd q.2 t u f z 421 t = 0; rw [e1, upd_s, hnow]; exact hwn⟩⟩, fun j hj => ?_⟩
  · show (_ → mFd q.2 t u f z 421 j = _) ∧ (_ → mFd q.2 t u f z 421 j = _ ∨ mFd q.2 t u f z 421 j = _)
    rw [e1]
    by_cases e : j = t
    · subst e
      rw [upd_s, hnow]
      exact ⟨fun q => absurd (by rw [hm0]; decide) q, fun _ => Or.inr rfl⟩
    · rw [upd_n _ _ e]; exact h2 j
  · change mFd q.2 t u f z 421 j ≤ 0 at hle
    show mFd q.2 t u f z 421 j = 0
    rw [e1] at hle ⊢
    by_cases e : j = t
    · subst e
      rw [upd_s, hnow] at hle
      exact absurd hle (Int32.not_le.mpr hw)
    · rw [upd_n _ _ e] at hle ⊢; exact h3 j hj hle
  · by_cases e : j = t
    · subst e
      refine ⟨fun q => absurd h0 q, fun _ => ?_⟩
      unfold tR
      rw [if_pos rfl]
      exact ⟨by rw [e1, upd_s, hnow], by show mFd q.2 j u f z 422 j = u; rw [e2, upd_s], by show mFd q.2 j u f z 423 j = f; rw [e3, upd_s], by show mFd q.2 j u f z 424 j = z; rw [e4, upd_s]⟩
    · refine ⟨fun _ => ⟨by rw [e1, upd_n _ _ e], by show mFd q.2 t u f z 422 j = _; rw [e2, upd_n _ _ e], by show mFd q.2 t u f z 423 j = _; rw [e3, upd_n _ _ e], by show mFd q.2 t u f z 424 j = _; rw [e4, upd_n _ _ e]⟩, fun g => ?_⟩
      unfold tR
      rw [if_neg e]
      show mFd q.2 t u f z 421 j = 0
      rw [e1, upd_n _ _ e]
      exact g
theorem orF_0 {N0 : gMe} {q : gFm} (h : oR N0 q) : orF q.1 0 = q.1 := by
  unfold orF
  rcases h.2.2.2 with ⟨h9, -⟩ | ⟨h9, -⟩
  · rw [h9]; decide
  · rw [h9]; decide
theorem orF_1 (s : Int32) : orF s 1 = 1 := bi_t (Or.inr (by decide))
/-- an attempt at the fact t -/
def tO (t : Nat) (T : Option gRs) (j : Nat) : Option gRs := if j = t then T else none
theorem att_st {N0 : gMe} (hw : 0 < N0 400 36) {t : Nat} (ht : t < 756) {T : gMe → Option gRs} {T0 : Option gRs} (hT : ∀ q : gFm, oR N0 q → T q.2 = T0) : Att Prod.snd 421 (N0 400 36) (oR N0) (fun q => (orF q.1 (stR q.2 t (T q.2)).1, (stR q.2 t (T q.2)).2)) (tO t T0) := by
  intro q hq
  simp only [hT q hq]
  by_cases h0 : q.2 421 t = 0
  · have hle : q.2 421 t ≤ 0 := by rw [h0]; decide
    cases T0 with
    | none =>
      have e : stR q.2 t none = (0, q.2) := by unfold stR; rw [if_neg (not_not_intro hle)]
      rw [e]
      simp only [orF_0 hq]
      refine ⟨hq, fun j hj => ⟨fun _ => ⟨rfl, rfl, rfl, rfl⟩, fun g => ?_⟩⟩
      have : tO t none j = none := by unfold tO; simp
      rw [this]; exact g
    | some z =>
      have e : stR q.2 t (some z) = (1, mFd q.2 t z.1 z.2.1 z.2.2) := by unfold stR; rw [if_neg (not_not_intro hle)]
      rw [e]
      simp only [orF_1]
      exact hq.found hw ht h0 z.1 z.2.1 z.2.2
  · have hle : ¬ q.2 421 t ≤ 0 := fun h9 => h0 (hq.2.2.1 t ht h9)
    have e : stR q.2 t T0 = (0, q.2) := by unfold stR; rw [if_pos hle]
    rw [e]
    simp only [orF_0 hq]
    refine ⟨hq, fun j hj => ⟨fun _ => ⟨rfl, rfl, rfl, rfl⟩, fun g => ?_⟩⟩
    have : tO t T0 j = none := by unfold tO; exact if_neg (fun e9 => h0 (by rw [← e9]; exact g))
    rw [this]; exact g
theorem if_cgr {P Q : Prop} [Decidable P] [Decidable Q] {x x' z z' : Option gRs} (h : P ↔ Q) (hx : x = x') (hz : z = z') : (if P then x else z) = (if Q then x' else z') := by
  subst hx; subst hz
  by_cases hp : P
  · rw [if_pos hp, if_pos (h.mp hp)]
  · rw [if_neg hp, if_neg (fun q => hp (h.mpr q))]
theorem nvR_cg {M N : gMe} (hh : ∀ j, pHad M j ↔ pHad N j) (c a : Nat) : nvR M c a = nvR N c a := fstO_cg 6 0 (fun b _ _ => by unfold nv1; exact if_cgr (and_congr (hh _) (hh _)) rfl rfl)
theorem ntR_cg {M N : gMe} (hh : ∀ j, pHad M j ↔ pHad N j) (a c r m : Nat) : ntR M a c r m = ntR N a c r m := by
  unfold ntR
  rw [fstO_cg (f := nt1 M a c r m) (g := nt1 N a c r m) 6 0 (fun b _ _ => by
    unfold nt1
    refine fstO_cg _ _ (fun d _ _ => ?_)
    unfold nt1D
    refine if_cgr (hh _) (fstO_cg _ _ (fun e _ _ => ?_)) rfl
    unfold nt1E
    exact if_cgr (and_congr Iff.rfl (hh _)) rfl rfl)]
  rw [fstO_cg (f := nt2 M a c r m) (g := nt2 N a c r m) 6 0 (fun b _ _ => by unfold nt2; exact if_cgr (and_congr (hh _) (hh _)) rfl rfl)]
theorem nmR_cg {M N : gMe} (hh : ∀ j, pHad M j ↔ pHad N j) (ho : ∀ n, pHo M n ↔ pHo N n) (K : Nat → Nat → Nat) (c a x r : Nat) : nmR M K c a x r = nmR N K c a x r := by
  unfold nmR
  rw [fstO_cg (f := nm1 M a x r) (g := nm1 N a x r) 6 0 (fun b _ _ => by unfold nm1; exact if_cgr (and_congr (hh _) (hh _)) rfl rfl)]
  rw [fstO_cg (f := nm2 M a x r) (g := nm2 N a x r) 6 0 (fun b _ _ => by
    unfold nm2
    refine if_cgr (hh _) (fstO_cg _ _ (fun d _ _ => ?_)) rfl
    unfold nm2D
    exact if_cgr (hh _) rfl rfl)]
  rw [fstO_cg (f := nm3 M K a x r) (g := nm3 N K a x r) c 1 (fun n _ _ => by unfold nm3; exact if_cgr (and_congr (ho _) (and_congr Iff.rfl (and_congr Iff.rfl (and_congr Iff.rfl (hh _))))) rfl rfl)]
def rT (N0 : gMe) (a x r j : Nat) : Option gRs := fstO (fun d => tO (truM a x r d) (ntR N0 a x r d) j) 4 0
def rR (N0 : gMe) (K : Nat → Nat → Nat) (c a x r j : Nat) : Option gRs := orE (tO (mayM a x r) (nmR N0 K c a x r) j) (rT N0 a x r j)
def rX (N0 : gMe) (K : Nat → Nat → Nat) (c a x j : Nat) : Option gRs := orE (fstO (fun r => rR N0 K c a x r j) 4 0) (tO (spkM a x) (nvR N0 a x) j)
def rA (N0 : gMe) (K : Nat → Nat → Nat) (c a j : Nat) : Option gRs := fstO (fun x => rX N0 K c a x j) 6 0
def rGo (N0 : gMe) (K : Nat → Nat → Nat) (c j : Nat) : Option gRs := fstO (fun a => rA N0 K c a j) 6 0
theorem att_gsR {N0 : gMe} (hw : 0 < N0 400 36) {K : Nat → Nat → Nat} {c a x r : Nat} (ha : a < 6) (hx : x < 6) (hr : r < 4) : Att Prod.snd 421 (N0 400 36) (oR N0) (gsR K c a x r) (rR N0 K c a x r) := by
  have hwn : ¬ N0 400 36 = 0 := fun e => by rw [e] at hw; exact absurd hw (by decide)
  have h1 : Att Prod.snd 421 (N0 400 36) (oR N0) (gsM K c a x r) (tO (mayM a x r) (nmR N0 K c a x r)) := (att_st hw (mayM_lt ha hx hr) (T := fun M => nmR M K c a x r) (fun q hq => nmR_cg hq.had hq.ho K c a x r)).congr (fun s => by unfold gsM; exact rfl) (fun j _ => rfl)
  have h2 := Att.itp (f := gsT a x r) (T := fun d => tO (truM a x r d) (ntR N0 a x r d)) hwn 4 0 (fun d _ hd => (att_st hw (truM_lt ha hx hr (by omega)) (T := fun M => ntR M a x r d) (fun q hq => ntR_cg hq.had a x r d)).congr (fun s => by unfold gsT; exact rfl) (fun j _ => rfl))
  exact (h1.comp hwn h2).congr (fun s => by unfold gsR; exact rfl) (fun j _ => by unfold rR rT; exact rfl)
theorem att_gsX {N0 : gMe} (hw : 0 < N0 400 36) {K : Nat → Nat → Nat} {c a x : Nat} (ha : a < 6) (hx : x < 6) : Att Prod.snd 421 (N0 400 36) (oR N0) (gsX K c a x) (rX N0 K c a x) := by
  have hwn : ¬ N0 400 36 = 0 := fun e => by rw [e] at hw; exact absurd hw (by decide)
  have h1 := Att.itp (f := gsR K c a x) (T := rR N0 K c a x) hwn 4 0 (fun r _ hr => att_gsR hw ha hx (by omega))
  have h2 : Att Prod.snd 421 (N0 400 36) (oR N0) (gsV a x) (tO (spkM a x) (nvR N0 a x)) := (att_st hw (spkM_lt ha hx) (T := fun M => nvR M a x) (fun q hq => nvR_cg hq.had a x)).congr (fun s => by unfold gsV; exact rfl) (fun j _ => rfl)
  exact (h1.comp hwn h2).congr (fun s => by unfold gsX; exact rfl) (fun j _ => by unfold rX; exact rfl)
theorem att_go {N0 : gMe} (hw : 0 < N0 400 36) {K : Nat → Nat → Nat} {c : Nat} : Att Prod.snd 421 (N0 400 36) (oR N0) (itP (gsA K c) 6 0) (rGo N0 K c) := by
  have hwn : ¬ N0 400 36 = 0 := fun e => by rw [e] at hw; exact absurd hw (by decide)
  have h2 : ∀ a, a < 6 → Att Prod.snd 421 (N0 400 36) (oR N0) (gsA K c a) (rA N0 K c a) := fun a ha => by
    have h1 := Att.itp (f := gsX K c a) (T := rX N0 K c a) hwn 6 0 (fun x _ hx => att_gsX hw ha (by omega))
    exact h1.congr (fun s => by unfold gsA; exact rfl) (fun j _ => by unfold rA; exact rfl)
  have h3 := Att.itp (f := gsA K c) (T := rA N0 K c) hwn 6 0 (fun a _ ha => h2 a (by omega))
  exact h3.congr (fun s => rfl) (fun j _ => by unfold rGo; exact rfl)

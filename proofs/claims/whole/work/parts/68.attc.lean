/-! the class's rounds, as attempts -/
/-- what holds within a round that began at M0 -/
def oC (M0 M : gMe) : Prop := gPs M0 M ∧ M 10 7 = M0 10 7 ∧ (∀ j, (¬ M0 15 j = 0 → M 15 j = M0 15 j) ∧ (M0 15 j = 0 → M 15 j = 0 ∨ M 15 j = M0 10 7)) ∧ ((M 10 8 = 0 ∧ ∀ j, M 15 j = M0 15 j) ∨ (M 10 8 = 1 ∧ ∃ j, j < 756 ∧ M0 15 j = 0 ∧ ¬ M 15 j = 0))
theorem oC.kn {M0 M : gMe} (h : oC M0 M) (j : Nat) : pKn M j ↔ pKn M0 j := by
  obtain ⟨-, h2, h3, -⟩ := h
  by_cases e : M0 15 j = 0
  · rcases (h3 j).2 e with h9 | h9
    · exact ⟨fun q => absurd h9 q.1, fun q => absurd e q.1⟩
    · refine ⟨fun q => ?_, fun q => absurd e q.1⟩
      have := q.2
      rw [h2, h9] at this
      exact absurd (Int32.le_refl _) this
  · unfold pKn
    rw [h2, (h3 j).1 e]
theorem cReach_at (M : gMe) (t : Nat) (u f z : Int32) (h : M 15 t = 0) : (cReach M t u f z 15 = upd (M 15) t (M 10 7)) ∧ (cReach M t u f z 16 = upd (M 16) t u) ∧ (cReach M t u f z 17 = upd (M 17) t f) ∧ (cReach M t u f z 18 = upd (M 18) t z) ∧ (cReach M t u f z 10 = upd (M 10) 8 1) := by
  unfold cReach
  rw [if_pos h]
  refine ⟨?_, ?_, ?_, ?_, ?_⟩
  · rw [gst_ne _ _ _ _ (by decide), gst_ne _ _ _ _ (by decide), gst_ne _ _ _ _ (by decide), gst_ne _ _ _ _ (by decide), gst_same]
  · rw [gst_ne _ _ _ _ (by decide), gst_ne _ _ _ _ (by decide), gst_ne _ _ _ _ (by decide), gst_same, gst_ne _ _ _ _ (by decide)]
  · rw [gst_ne _ _ _ _ (by decide), gst_ne _ _ _ _ (by decide), gst_same, gst_ne _ _ _ _ (by decide), gst_ne _ _ _ _ (by decide)]
  · rw [gst_ne _ _ _ _ (by decide), gst_same, gst_ne _ _ _ _ (by decide), gst_ne _ _ _ _ (by decide), gst_ne _ _ _ _ (by decide)]
  · rw [gst_same, gst_ne _ _ _ _ (by decide), gst_ne _ _ _ _ (by decide), gst_ne _ _ _ _ (by decide), gst_ne _ _ _ _ (by decide)]
theorem upd_s (f : Nat → Int32) (k : Nat) (v : Int32) : upd f k v k = v := by simp [upd]
theorem upd_n (f : Nat → Int32) {k j : Nat} (v : Int32) (h : j ≠ k) : upd f k v j = f j := by simp [upd, h]
def tR (t : Nat) (q : gRs) (j : Nat) : Option gRs := if j = t then some q else none
theorem att_reach {M0 : gMe} (hw : ¬ M0 10 7 = 0) {t : Nat} (ht : t < 756) (u f z : Int32) : Att (fun s => s) 15 (M0 10 7) (oC M0) (fun M => cReach M t u f z) (tR t (u, f, z)) := by
  intro M hM
  by_cases h0 : M 15 t = 0
  · obtain ⟨e1, e2, e3, e4, e5⟩ := cReach_at M t u f z h0
    obtain ⟨h1, h2, h3, h4⟩ := hM
    have hm0 : M0 15 t = 0 := by
      by_cases e : M0 15 t = 0
      · exact e
      · rw [← (h3 t).1 e]; exact h0
    refine ⟨⟨h1.tr gPs.re, by show cReach M t u f z 10 7 = _; rw [e5, upd_n _ _ (by decide)]; exact h2, fun j => ?_, Or.inr ⟨by show cReach M t u f z 10 8 = _; rw [e5, upd_s], t, ht, hm0, by show ¬ cReach M t u f z 15 t = 0; rw [e1, upd_s, h2]; exact hw⟩⟩, fun j hj => ?_⟩
    · show (_ → cReach M t u f z 15 j = _) ∧ (_ → cReach M t u f z 15 j = 0 ∨ cReach M t u f z 15 j = _)
      rw [e1]
      by_cases e : j = t
      · subst e
        rw [upd_s]
        exact ⟨fun q => absurd hm0 q, fun _ => Or.inr h2⟩
      · rw [upd_n _ _ e]
        exact h3 j
    · show (_ → gSm 15 M (cReach M t u f z) j) ∧ (_ → gTk 15 _ (cReach M t u f z) j _)
      by_cases e : j = t
      · subst e
        refine ⟨fun q => absurd h0 q, fun _ => ?_⟩
        unfold tR
        rw [if_pos rfl]
        exact ⟨by rw [e1, upd_s, h2], by show cReach M j u f z 16 j = u; rw [e2, upd_s], by show cReach M j u f z 17 j = f; rw [e3, upd_s], by show cReach M j u f z 18 j = z; rw [e4, upd_s]⟩
      · refine ⟨fun _ => ⟨by rw [e1, upd_n _ _ e], by show cReach M t u f z 16 j = _; rw [e2, upd_n _ _ e], by show cReach M t u f z 17 j = _; rw [e3, upd_n _ _ e], by show cReach M t u f z 18 j = _; rw [e4, upd_n _ _ e]⟩, fun q => ?_⟩
        unfold tR
        rw [if_neg e]
        show cReach M t u f z 15 j = 0
        rw [e1, upd_n _ _ e]
        exact q
  · have e : cReach M t u f z = M := by unfold cReach; rw [if_neg h0]
    simp only [e]
    refine ⟨hM, fun j hj => ⟨fun _ => ⟨rfl, rfl, rfl, rfl⟩, fun q => ?_⟩⟩
    unfold tR
    rw [if_neg (fun e9 => h0 (by rw [← e9]; exact q))]
    exact q
/-- an attempt whose ground must be known -/
def tL (M0 : gMe) (x t : Nat) (q : gRs) (j : Nat) : Option gRs := if pKn M0 x then tR t q j else none
theorem att_leaf {M0 : gMe} (hw : ¬ M0 10 7 = 0) {x t : Nat} (ht : t < 756) (u f z : Int32) : Att (fun s => s) 15 (M0 10 7) (oC M0) (fun M => if pKn M x then cReach M t u f z else M) (tL M0 x t (u, f, z)) := Att.iff (P := fun M => pKn M x) (fun M h => h.kn x) (fun _ => att_reach hw ht u f z)
def tHom (M0 : gMe) (u k : Int32) (a b r j : Nat) : Option gRs := fstO (fun x => tL M0 (mayN b x r) (mayN a x r) (u, k, nI (mayN b x r)) j) 6 0
def tImp (M0 : gMe) (n : Int32) (a r s j : Nat) : Option gRs := fstO (fun x => tL M0 (mayN a x r) (mayN a x s) (7, n, nI (mayN a x r)) j) 6 0
def tHov (M0 : gMe) (c b j : Nat) : Option gRs := fstO (fun a => tL M0 (spkN b a) (spkN c a) (6, nI (spkN c b), nI (spkN b a)) j) 6 0
def tHot (M0 : gMe) (u k : Int32) (a b r m j : Nat) : Option gRs := fstO (fun c => fstO (fun e => tL M0 (truN b c r e) (truN a c r (min m e)) (u, k, nI (truN b c r e)) j) 4 0) 6 0
section gAttC
variable {M0 : gMe}
theorem att_hom (hw : ¬ M0 10 7 = 0) (u k : Int32) {a b r : Nat} (ha : a < 6) (hr : r < 4) : Att (fun s => s) 15 (M0 10 7) (oC M0) (hom u k a b r) (tHom M0 u k a b r) := Att.it (f := homX u k a b r) hw 6 0 (fun i _ h => att_leaf hw (mayN_lt ha (by omega) hr) u k _)
theorem att_imp (hw : ¬ M0 10 7 = 0) (n : Int32) {a r s : Nat} (ha : a < 6) (hs : s < 4) : Att (fun s => s) 15 (M0 10 7) (oC M0) (imp n a r s) (tImp M0 n a r s) := Att.it (f := impX n a r s) hw 6 0 (fun i _ h => att_leaf hw (mayN_lt ha (by omega) hs) 7 n _)
theorem att_hov (hw : ¬ M0 10 7 = 0) {c b : Nat} (hc : c < 6) : Att (fun s => s) 15 (M0 10 7) (oC M0) (hov c b) (tHov M0 c b) := Att.it (f := hovX c b) hw 6 0 (fun i _ h => att_leaf hw (spkN_lt hc (by omega)) 6 _ _)
theorem att_hot (hw : ¬ M0 10 7 = 0) (u k : Int32) {a b r m : Nat} (ha : a < 6) (hr : r < 4) (hm : m < 4) : Att (fun s => s) 15 (M0 10 7) (oC M0) (hot u k a b r m) (tHot M0 u k a b r m) := Att.it (f := hotC u k a b r m) hw 6 0 (fun c _ h => Att.it (f := hotX u k a b r m c) hw 4 0 (fun e _ h2 => att_leaf hw (truN_lt ha (by omega) hr (by omega)) u k _))
end gAttC
def tFmv (M0 : gMe) (j : Nat) : Option gRs := fstO (fun b => fstO (fun a => if pKn M0 (spkN b a) then fstO (fun r => tHom M0 2 (nI (spkN b a)) a b r j) 4 0 else none) 6 0) 6 0
def tFtv (M0 : gMe) (j : Nat) : Option gRs := fstO (fun b => fstO (fun a => if pKn M0 (spkN b a) then fstO (fun r => tHot M0 5 (nI (spkN b a)) a b r 3 j) 4 0 else none) 6 0) 6 0
def tFmtD (M0 : gMe) (b a r d j : Nat) : Option gRs := if pKn M0 (truN a b r d) then tHom M0 3 (nI (truN a b r d)) a b r j else none
def tFmtR (M0 : gMe) (b a r j : Nat) : Option gRs := fstO (fun d => tFmtD M0 b a r d j) 4 0
def tFmtA (M0 : gMe) (b a j : Nat) : Option gRs := fstO (fun r => tFmtR M0 b a r j) 4 0
def tFmtB (M0 : gMe) (b j : Nat) : Option gRs := fstO (fun a => tFmtA M0 b a j) 6 0
def tFmt (M0 : gMe) (j : Nat) : Option gRs := fstO (fun b => tFmtB M0 b j) 6 0
def tFttD (M0 : gMe) (b a r d j : Nat) : Option gRs := if pKn M0 (truN a b r d) then tHot M0 4 (nI (truN a b r d)) a b r (d - 1) j else none
def tFttR (M0 : gMe) (b a r j : Nat) : Option gRs := fstO (fun d => tFttD M0 b a r d j) 3 1
def tFttA (M0 : gMe) (b a j : Nat) : Option gRs := fstO (fun r => tFttR M0 b a r j) 4 0
def tFttB (M0 : gMe) (b j : Nat) : Option gRs := fstO (fun a => tFttA M0 b a j) 6 0
def tFtt (M0 : gMe) (j : Nat) : Option gRs := fstO (fun b => tFttB M0 b j) 6 0
def tFvv (M0 : gMe) (j : Nat) : Option gRs := fstO (fun b => fstO (fun c => if pKn M0 (spkN c b) then tHov M0 c b j else none) 6 0) 6 0
def tFim (M0 : gMe) (K : Nat → Nat → Nat) (c j : Nat) : Option gRs := fstO (fun n => if pVal M0 (cP n) (M0 4 1) ∧ K n 1 = 3 then tImp M0 (nI n) (K n 0) (K n 2) (K n 3) j else none) c 1
def tRnd (M0 : gMe) (K : Nat → Nat → Nat) (c j : Nat) : Option gRs := orE (orE (orE (orE (orE (tFmv M0 j) (tFmt M0 j)) (tFtt M0 j)) (tFtv M0 j)) (tFvv M0 j)) (tFim M0 K c j)
theorem oC.vl {M0 M : gMe} (h : oC M0 M) (n : Nat) : pVal M (cP n) (M 4 1) ↔ pVal M0 (cP n) (M0 4 1) := by
  have h1 := h.1 (cP n) (Or.inr (by unfold cP; omega))
  have h2 := h.1 4 (Or.inl (by decide))
  unfold pVal
  rw [h1, h2]
theorem att_six {M0 : gMe} {F1 F2 F3 F4 F5 F6 : gMe → gMe} {T1 T2 T3 T4 T5 T6 : Nat → Option gRs} (hw : ¬ M0 10 7 = 0) (h1 : Att (fun s => s) 15 (M0 10 7) (oC M0) F1 T1) (h2 : Att (fun s => s) 15 (M0 10 7) (oC M0) F2 T2) (h3 : Att (fun s => s) 15 (M0 10 7) (oC M0) F3 T3) (h4 : Att (fun s => s) 15 (M0 10 7) (oC M0) F4 T4) (h5 : Att (fun s => s) 15 (M0 10 7) (oC M0) F5 T5) (h6 : Att (fun s => s) 15 (M0 10 7) (oC M0) F6 T6) : Att (fun s => s) 15 (M0 10 7) (oC M0) (fun M => F6 (F5 (F4 (F3 (F2 (F1 M)))))) (fun j => orE (orE (orE (orE (orE (T1 j) (T2 j)) (T3 j)) (T4 j)) (T5 j)) (T6 j)) := ((((h1.comp hw h2).comp hw h3).comp hw h4).comp hw h5).comp hw h6
theorem att_h1 {M0 : gMe} (hw : ¬ M0 10 7 = 0) : Att (fun s => s) 15 (M0 10 7) (oC M0) pFmv (tFmv M0) := Att.it (f := fmvB) hw 6 0 (fun b _ hb => Att.it (f := fmvA b) hw 6 0 (fun a _ ha => Att.iff (P := fun M => pKn M (spkN b a)) (F := itN (fmvR b a) 4 0) (fun M h => h.kn _) (fun _ => Att.it (f := fmvR b a) hw 4 0 (fun r _ hr => att_hom hw 2 _ (by omega) (by omega)))))
theorem att_fmtD {M0 : gMe} (hw : ¬ M0 10 7 = 0) {b a r d : Nat} (ha : a < 6) (hr : r < 4) : Att (fun s => s) 15 (M0 10 7) (oC M0) (fmtD b a r d) (tFmtD M0 b a r d) := Att.iff (P := fun M => pKn M (truN a b r d)) (F := hom 3 (nI (truN a b r d)) a b r) (fun M h => h.kn _) (fun _ => att_hom hw 3 _ ha hr)
theorem att_fmtR {M0 : gMe} (hw : ¬ M0 10 7 = 0) {b a r : Nat} (ha : a < 6) (hr : r < 4) : Att (fun s => s) 15 (M0 10 7) (oC M0) (fmtR b a r) (tFmtR M0 b a r) := Att.it (f := fmtD b a r) (T := tFmtD M0 b a r) hw 4 0 (fun d _ _ => att_fmtD hw ha hr)
theorem att_fmtA {M0 : gMe} (hw : ¬ M0 10 7 = 0) {b a : Nat} (ha : a < 6) : Att (fun s => s) 15 (M0 10 7) (oC M0) (fmtA b a) (tFmtA M0 b a) := Att.it (f := fmtR b a) (T := tFmtR M0 b a) hw 4 0 (fun r _ hr => att_fmtR hw ha (by omega))
theorem att_fmtB {M0 : gMe} (hw : ¬ M0 10 7 = 0) {b : Nat} : Att (fun s => s) 15 (M0 10 7) (oC M0) (fmtB b) (tFmtB M0 b) := Att.it (f := fmtA b) (T := tFmtA M0 b) hw 6 0 (fun a _ ha => att_fmtA hw (by omega))
theorem att_h2 {M0 : gMe} (hw : ¬ M0 10 7 = 0) : Att (fun s => s) 15 (M0 10 7) (oC M0) pFmt (tFmt M0) := by
  have h := Att.it (f := fmtB) (T := tFmtB M0) hw 6 0 (fun b _ _ => att_fmtB hw)
  exact h.congr (fun s => by unfold pFmt; exact rfl) (fun j _ => by unfold tFmt; exact rfl)
theorem att_fttD {M0 : gMe} (hw : ¬ M0 10 7 = 0) {b a r d : Nat} (ha : a < 6) (hr : r < 4) (hd : d < 4) : Att (fun s => s) 15 (M0 10 7) (oC M0) (fttD b a r d) (tFttD M0 b a r d) := Att.iff (P := fun M => pKn M (truN a b r d)) (F := hot 4 (nI (truN a b r d)) a b r (d - 1)) (fun M h => h.kn _) (fun _ => att_hot hw 4 _ ha hr (by omega))
theorem att_fttR {M0 : gMe} (hw : ¬ M0 10 7 = 0) {b a r : Nat} (ha : a < 6) (hr : r < 4) : Att (fun s => s) 15 (M0 10 7) (oC M0) (fttR b a r) (tFttR M0 b a r) := Att.it (f := fttD b a r) (T := tFttD M0 b a r) hw 3 1 (fun d _ hd => att_fttD hw ha hr (by omega))
theorem att_fttA {M0 : gMe} (hw : ¬ M0 10 7 = 0) {b a : Nat} (ha : a < 6) : Att (fun s => s) 15 (M0 10 7) (oC M0) (fttA b a) (tFttA M0 b a) := Att.it (f := fttR b a) (T := tFttR M0 b a) hw 4 0 (fun r _ hr => att_fttR hw ha (by omega))
theorem att_fttB {M0 : gMe} (hw : ¬ M0 10 7 = 0) {b : Nat} : Att (fun s => s) 15 (M0 10 7) (oC M0) (fttB b) (tFttB M0 b) := Att.it (f := fttA b) (T := tFttA M0 b) hw 6 0 (fun a _ ha => att_fttA hw (by omega))
theorem att_h3 {M0 : gMe} (hw : ¬ M0 10 7 = 0) : Att (fun s => s) 15 (M0 10 7) (oC M0) pFtt (tFtt M0) := by
  have h := Att.it (f := fttB) (T := tFttB M0) hw 6 0 (fun b _ _ => att_fttB hw)
  exact h.congr (fun s => by unfold pFtt; exact rfl) (fun j _ => by unfold tFtt; exact rfl)
theorem att_h4 {M0 : gMe} (hw : ¬ M0 10 7 = 0) : Att (fun s => s) 15 (M0 10 7) (oC M0) pFtv (tFtv M0) := Att.it (f := ftvB) hw 6 0 (fun b _ hb => Att.it (f := ftvA b) hw 6 0 (fun a _ ha => Att.iff (P := fun M => pKn M (spkN b a)) (F := itN (ftvR b a) 4 0) (fun M h => h.kn _) (fun _ => Att.it (f := ftvR b a) hw 4 0 (fun r _ hr => att_hot hw 5 _ (by omega) (by omega) (by omega)))))
theorem att_h5 {M0 : gMe} (hw : ¬ M0 10 7 = 0) : Att (fun s => s) 15 (M0 10 7) (oC M0) pFvv (tFvv M0) := Att.it (f := fvvB) hw 6 0 (fun b _ hb => Att.it (f := fvvC b) hw 6 0 (fun c _ hc => Att.iff (P := fun M => pKn M (spkN c b)) (F := hov c b) (fun M h => h.kn _) (fun _ => att_hov hw (by omega))))
theorem att_h6 {M0 : gMe} (hw : ¬ M0 10 7 = 0) {K : Nat → Nat → Nat} {c : Nat} (hK : ∀ n, 1 ≤ n → n ≤ c → kOK (K n)) : Att (fun s => s) 15 (M0 10 7) (oC M0) (fim K c) (tFim M0 K c) := Att.it (f := fiX K) hw c 1 (fun n h1 hn => Att.iff (P := fun M => pVal M (cP n) (M 4 1) ∧ K n 1 = 3) (F := imp (nI n) (K n 0) (K n 2) (K n 3)) (fun M h => and_congr (h.vl n) Iff.rfl) (fun h9 => att_imp hw _ (hK n h1 (by omega)).1 ((hK n h1 (by omega)).2.2.2.2.2 h9.2).2))
theorem att_wwf {M0 : gMe} (hw : ¬ M0 10 7 = 0) {K : Nat → Nat → Nat} {c : Nat} (hK : ∀ n, 1 ≤ n → n ≤ c → kOK (K n)) : Att (fun s => s) 15 (M0 10 7) (oC M0) (wwf K c) (tRnd M0 K c) := by
  have h9 := att_six (F1 := pFmv) (F2 := pFmt) (F3 := pFtt) (F4 := pFtv) (F5 := pFvv) (F6 := fim K c) (T1 := tFmv M0) (T2 := tFmt M0) (T3 := tFtt M0) (T4 := tFtv M0) (T5 := tFvv M0) (T6 := tFim M0 K c) hw (att_h1 hw) (att_h2 hw) (att_h3 hw) (att_h4 hw) (att_h5 hw) (att_h6 hw hK)
  exact h9
/-- what is said, as attempts -/
def tSd (M0 : gMe) (K : Nat → Nat → Nat) (o c j : Nat) : Option gRs := fstO (fun n => if pVal M0 (cP n) (M0 4 1) then (match fsN (K n) o with | some t => tR t (1, nI n, 0) j | none => none) else none) c 1
theorem att_sws {M0 : gMe} (hw : ¬ M0 10 7 = 0) {K : Nat → Nat → Nat} {o c : Nat} (hK : ∀ n, 1 ≤ n → n ≤ c → kOK (K n)) : Att (fun s => s) 15 (M0 10 7) (oC M0) (sws K o c) (tSd M0 K o c) := by
  refine Att.it (f := swX K o) hw c 1 (fun n h1 hn => ?_)
  cases hf : fsN (K n) o with
  | none =>
    refine (Att.id).congr (fun M => ?_) (fun j _ => ?_)
    · unfold swX; rw [hf]; simp
    · simp
  | some t =>
    refine (Att.iff (P := fun M => pVal M (cP n) (M 4 1)) (F := fun M => cReach M t 1 (nI n) 0) (fun M h => h.vl n) (fun _ => att_reach hw (fsN_lt (hK n h1 (by omega)) hf) 1 (nI n) 0)).congr (fun M => ?_) (fun j _ => ?_)
    · unfold swX; rw [hf]
    · rfl

/-! what a round of attempts leaves: each fact not yet found takes the first reason that is tried for it -/
def gSm (p : Nat) (M M' : gMe) (j : Nat) : Prop := M' p j = M p j ∧ M' (p + 1) j = M (p + 1) j ∧ M' (p + 2) j = M (p + 2) j ∧ M' (p + 3) j = M (p + 3) j
def gNw (p : Nat) (w : Int32) (M' : gMe) (j : Nat) (q : gRs) : Prop := M' p j = w ∧ M' (p + 1) j = q.1 ∧ M' (p + 2) j = q.2.1 ∧ M' (p + 3) j = q.2.2
def gTk (p : Nat) (w : Int32) (M' : gMe) (j : Nat) (o : Option gRs) : Prop := match o with
  | some q => gNw p w M' j q
  | none => M' p j = 0
def Att {σ : Type} (mem : σ → gMe) (p : Nat) (w : Int32) (Oth : σ → Prop) (F : σ → σ) (T : Nat → Option gRs) : Prop :=
  ∀ s, Oth s → Oth (F s) ∧ ∀ j, j < 756 → (¬ mem s p j = 0 → gSm p (mem s) (mem (F s)) j) ∧ (mem s p j = 0 → gTk p w (mem (F s)) j (T j))
theorem gSm.tr {p : Nat} {M M1 M2 : gMe} {j : Nat} (h : gSm p M M1 j) (h2 : gSm p M1 M2 j) : gSm p M M2 j := ⟨h2.1.trans h.1, h2.2.1.trans h.2.1, h2.2.2.1.trans h.2.2.1, h2.2.2.2.trans h.2.2.2⟩
section gAtt
variable {σ : Type} {mem : σ → gMe} {p : Nat} {w : Int32} {Oth : σ → Prop}
theorem Att.id : Att mem p w Oth (fun s => s) (fun _ => none) := fun s hs => ⟨hs, fun j _ => ⟨fun _ => ⟨rfl, rfl, rfl, rfl⟩, fun h => h⟩⟩
theorem Att.comp {F G : σ → σ} {T1 T2 : Nat → Option gRs} (hw : ¬ w = 0) (h1 : Att mem p w Oth F T1) (h2 : Att mem p w Oth G T2) : Att mem p w Oth (fun s => G (F s)) (fun j => orE (T1 j) (T2 j)) := by
  intro s hs
  obtain ⟨a1, b1⟩ := h1 s hs
  obtain ⟨a2, b2⟩ := h2 (F s) a1
  refine ⟨a2, fun j hj => ⟨fun h => ?_, fun h => ?_⟩⟩
  · have h9 := (b1 j hj).1 h
    exact h9.tr ((b2 j hj).1 (by rw [h9.1]; exact h))
  · have h9 := (b1 j hj).2 h
    cases ht : T1 j with
    | none =>
      rw [ht] at h9
      show gTk p w (mem (G (F s))) j (orE (T1 j) (T2 j))
      rw [ht]
      exact (b2 j hj).2 h9
    | some q =>
      rw [ht] at h9
      have h8 := (b2 j hj).1 (by rw [h9.1]; exact hw)
      show gTk p w (mem (G (F s))) j (orE (T1 j) (T2 j))
      rw [ht]
      exact ⟨h8.1.trans h9.1, h8.2.1.trans h9.2.1, h8.2.2.1.trans h9.2.2.1, h8.2.2.2.trans h9.2.2.2⟩
theorem Att.iff {F : σ → σ} {T : Nat → Option gRs} {P : σ → Prop} [∀ s, Decidable (P s)] {c : Prop} [Decidable c] (hP : ∀ s, Oth s → (P s ↔ c)) (h : c → Att mem p w Oth F T) : Att mem p w Oth (fun s => if P s then F s else s) (fun j => if c then T j else none) := by
  intro s hs
  by_cases hc : c
  · have h9 := h hc s hs
    simp only [if_pos hc, if_pos ((hP s hs).mpr hc)]
    exact h9
  · have h9 := Att.id (mem := mem) (p := p) (w := w) s hs
    simp only [if_neg hc, if_neg (fun q => hc ((hP s hs).mp q))]
    exact h9
theorem Att.congr {F F' : σ → σ} {T T' : Nat → Option gRs} (h : Att mem p w Oth F T) (hF : ∀ s, F' s = F s) (hT : ∀ j, j < 756 → T' j = T j) : Att mem p w Oth F' T' := by
  intro s hs
  obtain ⟨a, b⟩ := h s hs
  rw [hF s]
  exact ⟨a, fun j hj => ⟨(b j hj).1, by rw [hT j hj]; exact (b j hj).2⟩⟩
end gAtt
theorem fstO_s (f : Nat → Option gRs) (d k : Nat) : fstO f (d + 1) k = orE (f k) (fstO f d (k + 1)) := by
  show (match f k with | some q => some q | none => fstO f d (k + 1)) = _
  unfold orE
  rfl
theorem Att.it {p : Nat} {w : Int32} {Oth : gMe → Prop} {f : Nat → gMe → gMe} {T : Nat → Nat → Option gRs} (hw : ¬ w = 0) : ∀ (d k : Nat), (∀ i, k ≤ i → i < k + d → Att (fun s => s) p w Oth (f i) (T i)) → Att (fun s => s) p w Oth (itN f d k) (fun j => fstO (fun i => T i j) d k)
  | 0, k, _ => Att.id
  | d + 1, k, h => ((h k (by omega) (by omega)).comp hw (Att.it hw d (k + 1) (fun i a b => h i (by omega) (by omega)))).congr (fun _ => rfl) (fun j _ => fstO_s _ _ _)
theorem Att.itp {p : Nat} {w : Int32} {Oth : gFm → Prop} {f : Nat → gFm → gFm} {T : Nat → Nat → Option gRs} (hw : ¬ w = 0) : ∀ (d k : Nat), (∀ i, k ≤ i → i < k + d → Att Prod.snd p w Oth (f i) (T i)) → Att Prod.snd p w Oth (itP f d k) (fun j => fstO (fun i => T i j) d k)
  | 0, k, _ => Att.id
  | d + 1, k, h => ((h k (by omega) (by omega)).comp hw (Att.itp hw d (k + 1) (fun i a b => h i (by omega) (by omega)))).congr (fun _ => rfl) (fun j _ => fstO_s _ _ _)
/-! the first one, selected -/
theorem fstO_no {f : Nat → Option gRs} : ∀ (d k : Nat), (∀ i, k ≤ i → i < k + d → f i = none) → fstO f d k = none
  | 0, _, _ => rfl
  | d + 1, k, h => by
    rw [fstO_s, h k (by omega) (by omega)]
    exact fstO_no d (k + 1) (fun i a b => h i (by omega) (by omega))
theorem fstO_one {f : Nat → Option gRs} {i0 : Nat} : ∀ (d k : Nat), k ≤ i0 → i0 < k + d → (∀ i, k ≤ i → i < k + d → i ≠ i0 → f i = none) → fstO f d k = f i0
  | 0, k, h1, h2, _ => by omega
  | d + 1, k, h1, h2, h => by
    rw [fstO_s]
    by_cases e : k = i0
    · subst e
      cases hf : f k with
      | some q => rfl
      | none => exact fstO_no d (k + 1) (fun i a b => h i (by omega) (by omega) (by omega))
    · rw [h k (by omega) (by omega) e]
      exact fstO_one d (k + 1) (by omega) (by omega) (fun i a b c => h i (by omega) (by omega) c)
theorem fstO_cg {f g : Nat → Option gRs} : ∀ (d k : Nat), (∀ i, k ≤ i → i < k + d → f i = g i) → fstO f d k = fstO g d k
  | 0, _, _ => rfl
  | d + 1, k, h => by
    rw [fstO_s, fstO_s, h k (by omega) (by omega), fstO_cg d (k + 1) (fun i a b => h i (by omega) (by omega))]
theorem orE_map (t : gRs → gRs) (x z : Option gRs) : (orE x z).map t = orE (x.map t) (z.map t) := by
  cases x <;> rfl
theorem fstO_map (t : gRs → gRs) (f : Nat → Option gRs) : ∀ (d k : Nat), (fstO f d k).map t = fstO (fun i => (f i).map t) d k
  | 0, _ => rfl
  | d + 1, k => by rw [fstO_s, fstO_s, orE_map, fstO_map t f d (k + 1)]
theorem fstO_sm {f : Nat → Option gRs} {q : gRs} : ∀ (d k : Nat), fstO f d k = some q → ∃ i, k ≤ i ∧ i < k + d ∧ f i = some q
  | 0, _, h => by cases h
  | d + 1, k, h => by
    rw [fstO_s] at h
    cases hf : f k with
    | some z => rw [hf] at h; exact ⟨k, by omega, by omega, by rw [hf]; exact h⟩
    | none =>
      rw [hf] at h
      obtain ⟨i, a, b, c⟩ := fstO_sm d (k + 1) h
      exact ⟨i, by omega, by omega, c⟩
theorem orE_n (x : Option gRs) : orE x none = x := by cases x <;> rfl
theorem orE_z (x : Option gRs) : orE none x = x := rfl
theorem orE_a (x y z : Option gRs) : orE (orE x y) z = orE x (orE y z) := by cases x <;> rfl
theorem orE_sm {x y : Option gRs} {q : gRs} (h : orE x y = some q) : x = some q ∨ y = some q := by
  cases x with
  | some z => exact Or.inl h
  | none => exact Or.inr h

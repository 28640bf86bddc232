/-! another table at place 1 -/
def gG1 (G : gG) (z : Nat) : gG := (G.1, G.2.1, G.2.2.1, G.2.2.2.1, va_up G.2.2.2.2.1 1 z, G.2.2.2.2.2)
def gN1 (L : gLy) : Prop := ∀ a k, L a = some k → ¬ gRf k 1
theorem gR.swap {G : gG} {r : Nat → Nat} {L : gLy} {M : gMe} {H : Heap} {z : Nat} (h : gR G r L M H) (hno : gN1 L) : gR (gG1 G z) (va_up r 1 z) L M H := by
  obtain ⟨h1, h2, h3, h4, h5, h6⟩ := h
  have hr : ∀ a k, L a = some k → va_up r 1 z a = r a := fun a k ha => va_up_ne _ _ (by have := (h1 a k ha).2.2; omega)
  have hn : ∀ a, L a ≠ none → va_up r 1 z a = r a := fun a ha => by
    cases hk : L a with
    | none => exact absurd hk ha
    | some k => exact hr a k hk
  refine ⟨fun a k ha => ?_, fun a b ha hb e => h2 a b ha hb (by rw [← hn a ha, ← hn b hb]; exact e), h3, fun i hi => ?_, h5, h6⟩
  · have e : gE G.2.1 (va_up r 1 z) k (M a) = gE G.2.1 r k (M a) := gE_eq (fun b hb => va_up_ne _ _ (fun e => hno a k ha (e ▸ hb)))
    rw [hr a k ha]
    refine ⟨?_, (h1 a k ha).2⟩
    show va_at G.1 vwCl (r a, gE G.2.1 (va_up r 1 z) k (M a)) H
    rw [e]; exact (h1 a k ha).1
  · show va_up r 1 z i = va_up G.2.2.2.2.1 1 z i
    by_cases h9 : i = 1
    · subst h9; rw [va_up_self, va_up_self]
    · rw [va_up_ne _ _ h9, va_up_ne _ _ h9]; exact h4 i hi
theorem gR.back {G : gG} {r : Nat → Nat} {L : gLy} {M : gMe} {H : Heap} {z : Nat} (h : gR (gG1 G z) r L M H) (hno : gN1 L) : gR G (va_up r 1 (G.2.2.2.2.1 1)) L M H := by
  have h9 := h.swap (z := G.2.2.2.2.1 1) hno
  have e : gG1 (gG1 G z) (G.2.2.2.2.1 1) = G := by
    show (G.1, G.2.1, G.2.2.1, G.2.2.2.1, va_up (va_up G.2.2.2.2.1 1 z) 1 (G.2.2.2.2.1 1), G.2.2.2.2.2) = G
    rw [va_up_two, va_up_id]
  rw [e] at h9
  exact h9
theorem gMet.swap {l : Launch} {G : gG} {y : MethodName} {cc : ByteArray} {nL : Nat} {ret : Option FieldType} {rm : Room} {as : List Value} {L : gLy} {M : gMe} {Z : Nat → Prop} {post : Option Value → gLy → gMe → Prop} {mc ms : Nat} {z : Nat} (hM : gMet l G y cc nL ret rm as L M Z post mc ms) (hno : gN1 L) (has : ∀ v ∈ as, v ≠ .ref 1) (hp : ∀ v L' M', post v L' M' → v ≠ some (.ref 1) ∧ gN1 L') : gMet l (gG1 G z) y cc nL ret rm as L M Z post mc ms := by
  intro r p e ha hc hk s m args below h1 h2 h3 h4
  obtain ⟨hargs, hW, hR⟩ := h3
  have hr1 : r 1 = z := (hR.2.2.2.1 1 (by decide)).trans (show va_up G.2.2.2.2.1 1 z 1 = z from va_up_self _ _ _)
  have hmap : as.map (gV (va_up r 1 (G.2.2.2.2.1 1))) = as.map (gV r) := gst_re (fun a ha9 => va_up_ne _ _ (fun e9 => has _ ha9 (by rw [e9])))
  obtain ⟨k, o, g1, g2, g3, g4, L9, g5, g6⟩ := hM (va_up r 1 (G.2.2.2.2.1 1)) p e ha hc hk s m args below h1 h2 ⟨by rw [hmap]; exact hargs, hW, hR.back hno⟩ h4
  obtain ⟨v, L', M', r', q1, q2, q3, q4, q5⟩ := g4
  obtain ⟨hv1, hn1⟩ := hp v L' M' q2.1
  refine ⟨k, o, g1, g2, g3, ⟨v, L', M', va_up r' 1 z, ?_, q2, fun a ha9 => ?_, q4, q5.swap hn1⟩, L9, g5, g6⟩
  · rw [q1]
    cases v with
    | none => rfl
    | some w =>
      show Outcome.returned (some (gV r' w)) = Outcome.returned (some (gV (va_up r' 1 z) w))
      rw [gV_eq (r := r') (r' := va_up r' 1 z) (fun a e9 => va_up_ne _ _ (fun e8 => hv1 (by rw [e9, e8])))]
  · by_cases h9 : a = 1
    · subst h9; rw [va_up_self, hr1]
    · rw [va_up_ne _ _ h9, q3 a ha9, va_up_ne _ _ h9]
theorem gMetH.swap {l : Launch} {G : gG} {y : MethodName} {cc : ByteArray} {nL : Nat} {ret : Option FieldType} {rm : Room} {as : List Value} {L : gLy} {M : gMe} {Z : Nat → Prop} {post : Option Value → gLy → gMe → Prop} {mc ms : Nat} {hs : gTb} {z : Nat} (hM : gMetH l G y cc nL ret hs rm as L M Z post mc ms) (hno : gN1 L) (has : ∀ v ∈ as, v ≠ .ref 1) (hp : ∀ v L' M', post v L' M' → v ≠ some (.ref 1) ∧ gN1 L') : gMetH l (gG1 G z) y cc nL ret hs rm as L M Z post mc ms := by
  intro r p e ha hc hk s m args below h1 h2 h3 h4
  obtain ⟨hargs, hW, hR⟩ := h3
  have hr1 : r 1 = z := (hR.2.2.2.1 1 (by decide)).trans (show va_up G.2.2.2.2.1 1 z 1 = z from va_up_self _ _ _)
  have hmap : as.map (gV (va_up r 1 (G.2.2.2.2.1 1))) = as.map (gV r) := gst_re (fun a ha9 => va_up_ne _ _ (fun e9 => has _ ha9 (by rw [e9])))
  obtain ⟨k, o, g1, g2, g3, g4, L9, g5, g6⟩ := hM (va_up r 1 (G.2.2.2.2.1 1)) p e ha hc hk s m args below h1 h2 ⟨by rw [hmap]; exact hargs, hW, hR.back hno⟩ h4
  obtain ⟨v, L', M', r', q1, q2, q3, q4, q5⟩ := g4
  obtain ⟨hv1, hn1⟩ := hp v L' M' q2.1
  refine ⟨k, o, g1, g2, g3, ⟨v, L', M', va_up r' 1 z, ?_, q2, fun a ha9 => ?_, q4, q5.swap hn1⟩, L9, g5, g6⟩
  · rw [q1]
    cases v with
    | none => rfl
    | some w =>
      show Outcome.returned (some (gV r' w)) = Outcome.returned (some (gV (va_up r' 1 z) w))
      rw [gV_eq (r := r') (r' := va_up r' 1 z) (fun a e9 => va_up_ne _ _ (fun e8 => hv1 (by rw [e9, e8])))]
  · by_cases h9 : a = 1
    · subst h9; rw [va_up_self, hr1]
    · rw [va_up_ne _ _ h9, q3 a ha9, va_up_ne _ _ h9]

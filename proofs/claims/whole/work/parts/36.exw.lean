theorem gX0 : gXc 0 = "java/lang/IllegalArgumentException" := by decide
theorem gX1 : gXc 1 = "java/lang/UnsupportedOperationException" := by decide
theorem gX2 : gXc 2 = "java/lang/IllegalStateException" := by decide
theorem gX3 : gXc 3 = "java/util/NoSuchElementException" := by decide
def exOk (w : Cond) : Bool := (goodWord w || nestWord w) && lw_tbl.contains w || exW.contains w
theorem exOk_of {w : Cond} (h : exOk w = true) : w ∈ TB ∨ w ∈ NB ∨ w ∈ exW := by
  unfold exOk at h
  simp only [Bool.or_eq_true, Bool.and_eq_true, List.contains_iff_mem] at h
  rcases h with ⟨h1 | h1, h2⟩ | h
  · exact Or.inl (List.mem_filter.mpr ⟨h2, h1⟩)
  · exact Or.inr (Or.inl (List.mem_filter.mpr ⟨h2, h1⟩))
  · exact Or.inr (Or.inr h)
def exNm : List String := ["java/lang/RuntimeException", "java/lang/Exception"]
theorem ex90 : (Bundle.ownAtoms "ProofGate" 90 (gXc 0) exNm).all exOk = true := by decide +kernel
theorem ex97 : (Bundle.ownAtoms "ProofGate" 97 (gXc 1) exNm).all exOk = true := by decide +kernel
theorem ex106 : (Bundle.ownAtoms "ProofGate" 106 (gXc 2) exNm).all exOk = true := by decide +kernel
theorem exAll {o : String} {i : Nat} {X : String} (h : (Bundle.ownAtoms o i X exNm).all exOk = true) : ∀ w ∈ Bundle.ownAtoms o i X exNm, w ∈ TB ∨ w ∈ NB ∨ w ∈ exW := fun w hw => exOk_of (List.all_eq_true.mp h w hw)
theorem exFit : ∀ n ∈ exNm, Bundle.fit n = true := by decide
theorem exTb {w : Cond} (h : (goodWord w && lw_tbl.contains w) = true) : w ∈ TB := by
  simp only [Bool.and_eq_true, List.contains_iff_mem] at h
  exact List.mem_filter.mpr ⟨h.2, h.1⟩
theorem ini0 : Cond.initialized (gXc 0) ∈ TB := exTb (by decide +kernel)
theorem ini1 : Cond.initialized (gXc 1) ∈ TB := exTb (by decide +kernel)
theorem ini2 : Cond.initialized (gXc 2) ∈ TB := exTb (by decide +kernel)
theorem ini3 : Cond.initialized (gXc 3) ∈ TB := exTb (by decide +kernel)
def exS : List (Nat × String) := [(88, "no such issuer or kind, or a number out of its range"), (95, "the seal is not right"), (104, "no room for another credential"), (119, "no such credential"), (125, "not the issuer"), (186, "no such principal, right or object"), (188, "the object is not there, or is there already"), (193, "not granted"), (223, "the machine crashed")]
def exN : List (String × String) := [("java/lang/UnsupportedOperationException", "java/lang/IllegalArgumentException"), ("java/lang/IllegalStateException", "java/lang/IllegalArgumentException"), ("java/lang/IllegalStateException", "java/lang/UnsupportedOperationException"), ("java/lang/UnsupportedOperationException", "java/util/NoSuchElementException"), ("java/lang/IllegalStateException", "java/util/NoSuchElementException"), ("java/util/NoSuchElementException", "java/lang/IllegalArgumentException")]
/-- what the throws need to be known -/
def gEx (l : Launch) (G : gG) : Prop := l.stackTraces = false ∧ (∀ w ∈ exW, ∀ a, gHe G (fun U => w.before a U = true)) ∧ (∀ q ∈ exS, gHe G (fun U => ∃ sa, vk_R "ProofGate" q.1 q.2 sa U)) ∧ ∀ q ∈ exN, gHe G (fun U => (Cond.not (.castable q.1 q.2)).before #[] U = true)

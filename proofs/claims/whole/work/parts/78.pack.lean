/-! facts: six numbers, and one int -/
theorem nI_eqI {a b : Nat} (ha : a < 2 ^ 31) (hb : b < 2 ^ 31) : nI a = nI b ↔ a = b := ⟨fun h => by
  have h9 := congrArg Int32.toNatClampNeg h
  rwa [nI_clamp ha, nI_clamp hb] at h9, fun h => by rw [h]⟩
theorem sh_l : ∀ n, n < 32 → ((nI n &&& 31).toBitVec.smod 32).toNat = n := by decide +kernel
theorem it_n {P s : Nat} (hP : P < 2 ^ 31) (hs : s < 32) : (nI P >>> (nI s &&& 31)) &&& 7 = nI (P / 2 ^ s % 8) := by
  apply Int32.toBitVec_inj.mp
  rw [Int32.toBitVec_and, Int32.toBitVec_shiftRight]
  show (((nI P).toBitVec.sshiftRight ((nI s &&& 31).toBitVec.smod 32).toNat) &&& BitVec.ofNat 32 7) = BitVec.ofNat 32 (P / 2 ^ s % 8)
  rw [sh_l s hs]
  have hx : (nI P).toBitVec = BitVec.ofNat 32 P := rfl
  have hm : (BitVec.ofNat 32 P).msb = false := by
    rw [BitVec.msb_eq_decide]
    simp only [BitVec.toNat_ofNat, decide_eq_false_iff_not]
    omega
  rw [hx, BitVec.sshiftRight_eq_of_msb_false hm]
  apply BitVec.eq_of_toNat_eq
  rw [BitVec.toNat_and, BitVec.toNat_ushiftRight]
  simp only [BitVec.toNat_ofNat]
  rw [Nat.mod_eq_of_lt (show P < 2 ^ 32 by omega), Nat.shiftRight_eq_div_pow, show (7 : Nat) % 2 ^ 32 = 2 ^ 3 - 1 by decide, Nat.and_two_pow_sub_one_eq_mod, Nat.mod_eq_of_lt (show P / 2 ^ s % 8 < 2 ^ 32 by omega)]
def pkN (w a b r o d : Nat) : Nat := ((((w * 8 + a) * 8 + b) * 8 + r) * 8 + o) * 8 + d
theorem fc_n (w a b r o d : Nat) : fcI (nI w) (nI a) (nI b) (nI r) (nI o) (nI d) = nI (pkN w a b r o d) := by
  unfold fcI
  show ((((nI w * nI 8 + nI a) * nI 8 + nI b) * nI 8 + nI r) * nI 8 + nI o) * nI 8 + nI d = _
  simp only [nI_add, pk_mul]
  rfl
theorem it_0 {P : Nat} (h : P < 2 ^ 31) : itI (nI P) 0 = nI (P / 2 ^ 15 % 8) := it_n (s := 15) h (by decide)
theorem it_1 {P : Nat} (h : P < 2 ^ 31) : itI (nI P) 1 = nI (P / 2 ^ 12 % 8) := it_n (s := 12) h (by decide)
theorem it_2 {P : Nat} (h : P < 2 ^ 31) : itI (nI P) 2 = nI (P / 2 ^ 9 % 8) := it_n (s := 9) h (by decide)
theorem it_3 {P : Nat} (h : P < 2 ^ 31) : itI (nI P) 3 = nI (P / 2 ^ 6 % 8) := it_n (s := 6) h (by decide)
theorem it_4 {P : Nat} (h : P < 2 ^ 31) : itI (nI P) 4 = nI (P / 2 ^ 3 % 8) := it_n (s := 3) h (by decide)
theorem it_5 {P : Nat} (h : P < 2 ^ 31) : itI (nI P) 5 = nI (P / 2 ^ 0 % 8) := it_n (s := 0) h (by decide)
/-- a fact's six numbers: kind, of, to, right, object, depth -/
def fOK (f : Nat → Nat) : Prop := f 0 < 3 ∧ f 1 < 6 ∧ f 2 < 6 ∧ f 3 < 4 ∧ f 4 < 6 ∧ f 5 < 4 ∧ (f 0 = 0 → f 5 = 0) ∧ (f 0 = 1 → f 3 = 0 ∧ f 4 = 0 ∧ f 5 = 0)
def pkF (f : Nat → Nat) : Nat := if f 0 = 1 then pkN 2 (f 2) (f 1) 0 0 0 else pkN (f 0 + 1) (f 1) (f 2) (f 3) (f 4) (f 5)
theorem pkF_b {f : Nat → Nat} (h : fOK f) : 0 < pkF f ∧ pkF f < 2 ^ 31 ∧ pkF f / 2 ^ 15 % 8 = f 0 + 1 ∧ pkF f / 2 ^ 12 % 8 = (if f 0 = 1 then f 2 else f 1) ∧ pkF f / 2 ^ 9 % 8 = (if f 0 = 1 then f 1 else f 2) ∧ pkF f / 2 ^ 6 % 8 = f 3 ∧ pkF f / 2 ^ 3 % 8 = f 4 ∧ pkF f / 2 ^ 0 % 8 = f 5 := by
  obtain ⟨h0, h1, h2, h3, h4, h5, h6, h7⟩ := h
  unfold pkF
  by_cases e : f 0 = 1
  · obtain ⟨g1, g2, g3⟩ := h7 e
    simp only [if_pos e]
    unfold pkN
    rw [e, g1, g2, g3]
    refine ⟨by omega, by omega, by omega, by omega, by omega, by omega, by omega, by omega⟩
  · simp only [if_neg e]
    unfold pkN
    refine ⟨by omega, by omega, by omega, by omega, by omega, by omega, by omega, by omega⟩
section gDig
variable {f : Nat → Nat} (h : fOK f)
theorem dg0 (h : fOK f) : itI (nI (pkF f)) 0 = nI (f 0 + 1) := by rw [it_0 (pkF_b h).2.1, (pkF_b h).2.2.1]
theorem dg1 (h : fOK f) : itI (nI (pkF f)) 1 = nI (if f 0 = 1 then f 2 else f 1) := by rw [it_1 (pkF_b h).2.1, (pkF_b h).2.2.2.1]
theorem dg2 (h : fOK f) : itI (nI (pkF f)) 2 = nI (if f 0 = 1 then f 1 else f 2) := by rw [it_2 (pkF_b h).2.1, (pkF_b h).2.2.2.2.1]
theorem dg3 (h : fOK f) : itI (nI (pkF f)) 3 = nI (f 3) := by rw [it_3 (pkF_b h).2.1, (pkF_b h).2.2.2.2.2.1]
theorem dg4 (h : fOK f) : itI (nI (pkF f)) 4 = nI (f 4) := by rw [it_4 (pkF_b h).2.1, (pkF_b h).2.2.2.2.2.2.1]
theorem dg5 (h : fOK f) : itI (nI (pkF f)) 5 = nI (f 5) := by rw [it_5 (pkF_b h).2.1, (pkF_b h).2.2.2.2.2.2.2]
end gDig
theorem dg_0 : itI 0 0 = 0 := by decide
/-- the six numbers at b, the int v -/
def FR (M : gMe) (b : Nat) (v : Int32) (f : Nat → Nat) : Prop := fOK f ∧ (∀ i, i < 6 → M b i = nI (f i)) ∧ v = nI (pkF f)
theorem faB_at {M : gMe} {w z : Nat} (h : z ≠ w) : ∀ n i, faB M w z n w i = if i < n then M z i else M w i
  | 0, i => by rw [if_neg (by omega)]; rfl
  | n + 1, i => by
    show gst (faB M w z n) w n (faB M w z n z n) w i = _
    rw [gst_same, faB_ne n h]
    by_cases e : i = n
    · subst e; rw [upd_s, if_pos (by omega)]
    · rw [upd_n _ _ e, faB_at h n i]
      by_cases e2 : i < n
      · rw [if_pos e2, if_pos (by omega)]
      · rw [if_neg e2, if_neg (by omega)]
theorem hoM_at {M : gMe} {x z w : Nat} (hx : x ≠ w) (hz : z ≠ w) (h : M x 2 = M z 1) {i : Nat} (hi : i < 6) : hoM M x z w w i = if i = 1 then M x 1 else M z i := by
  unfold hoM
  rw [if_pos h, gst_same, faB_ne 6 hx]
  by_cases e : i = 1
  · subst e; rw [upd_s, if_pos rfl]
  · rw [upd_n _ _ e, if_neg e, faB_at hz, if_pos hi]
theorem tdM_at {M : gMe} {x z w : Nat} (hx : x ≠ w) (hz : z ≠ w) (h : pTd M x z) {i : Nat} (hi : i < 6) : tdM M x z w w i = if i = 5 then (if M z 5 < M x 5 - 1 then M z 5 else M x 5 - 1) else if i = 1 then M x 1 else M z i := by
  unfold tdM
  rw [if_pos h, gst_same, hoM_ne hz, hoM_ne hx]
  by_cases e : i = 5
  · subst e; rw [upd_s, if_pos rfl]
  · rw [upd_n _ _ e, if_neg e, hoM_at hx hz h.2.2 hi]
theorem imM_at {M : gMe} {c n z w : Nat} (hn : n ≠ w) (hz : z ≠ w) (h : pIm M c n z) {i : Nat} (hi : i < 6) : imM M c n z w w i = if i = 3 then M n 1 else M z i := by
  unfold imM
  rw [if_pos h, gst_same, faB_ne 6 hn]
  by_cases e : i = 3
  · subst e; rw [upd_s, if_pos rfl]
  · rw [upd_n _ _ e, if_neg e, faB_at hz, if_pos hi]
theorem faS_at {M : gMe} {w c n : Nat} (hc : c ≠ w) (hn : n ≠ w) {i : Nat} (hi : i < 6) : faS M w c n w i = if i = 0 then M c 1 else if i = 1 then M c 0 else M n (i - 2) := by
  unfold faS
  simp only [gst_ne _ _ _ _ hc, gst_ne _ _ _ _ hn, gst_same]
  rcases (show i = 0 ∨ i = 1 ∨ i = 2 ∨ i = 3 ∨ i = 4 ∨ i = 5 by omega) with rfl | rfl | rfl | rfl | rfl | rfl <;> simp [upd]

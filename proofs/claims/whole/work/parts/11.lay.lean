/-! Where things lie: the class's places 2 .. 25, its facts 100 .. 139, the reference's 400 .. 426; a Proof at b with its rows behind it; a credential -/
/-- a truth value as an int -/
def bi (P : Prop) [Decidable P] : Int32 := if P then 1 else 0
theorem bi_t {P : Prop} [Decidable P] (h : P) : bi P = 1 := if_pos h
theorem bi_f {P : Prop} [Decidable P] (h : ¬ P) : bi P = 0 := if_neg h
theorem bi_0 {P : Prop} [Decidable P] : bi P = 0 ↔ ¬ P := by
  by_cases h : P
  · rw [bi_t h]; exact ⟨fun e => absurd e (by decide), fun e => absurd h e⟩
  · rw [bi_f h]; exact ⟨fun _ => h, fun _ => rfl⟩
theorem bi_n {P : Prop} [Decidable P] : narrow .boolean (.int (bi P)) = .int (bi P) := by
  by_cases h : P
  · rw [bi_t h]; rfl
  · rw [bi_f h]; rfl
theorem bi_fit {P : Prop} [Decidable P] : fits .boolean (.int (bi P)) = true := by
  by_cases h : P
  · rw [bi_t h]; rfl
  · rw [bi_f h]; rfl
theorem bi_c {P Q : Prop} [Decidable P] [Decidable Q] (h : P ↔ Q) : bi P = bi Q := by
  by_cases hp : P
  · rw [bi_t hp, bi_t (h.mp hp)]
  · rw [bi_f hp, bi_f (fun q => hp (h.mpr q))]
theorem gT {P : Prop} [Decidable P] {L : gLy} {M : gMe} (h : P) : gPo (some (.int (bi P))) L M (some (.int 1)) L M := ⟨by rw [bi_t h], rfl, rfl⟩
theorem gN {P : Prop} [Decidable P] {L : gLy} {M : gMe} (h : ¬ P) : gPo (some (.int (bi P))) L M (some (.int 0)) L M := ⟨by rw [bi_f h], rfl, rfl⟩
theorem gX {x z : Int32} {L : gLy} {M : gMe} (h : z = x) : gPo (some (.int x)) L M (some (.int z)) L M := ⟨by rw [h], rfl, rfl⟩
section gBr
variable {l : Launch} {G : gG} {y : MethodName} {cc : ByteArray} {nL : Nat} {ret : Option FieldType} {R : Room} {mc ms : Nat} {Z : Nat → Prop} {post : Option Value → gLy → gMe → Prop} {L : gLy} {M : gMe} {cells slots : Nat} {lv : List (Option Value)} {pc : Nat} {st : List Value}
theorem V_bz (t q : Nat) {P : Prop} [Decidable P] {off : Int} (d : decode cc pc = .ok (.ifCond .eq off, 3)) (ht : (pc : Int) + off = (t : Int)) (hq : pc + 3 = q) (kt : ¬ P → V l G y cc nL ret R mc ms Z post L M cells slots lv t st) (kf : P → V l G y cc nL ret R mc ms Z post L M cells slots lv q st) : V l G y cc nL ret R mc ms Z post L M cells slots lv pc (.int (bi P) :: st) :=
  V_if_eq t q d ht hq (fun h => kt (bi_0.mp h)) (fun h => kf (Decidable.not_not.mp (fun e => h (bi_0.mpr e))))
theorem V_bn (t q : Nat) {P : Prop} [Decidable P] {off : Int} (d : decode cc pc = .ok (.ifCond .ne off, 3)) (ht : (pc : Int) + off = (t : Int)) (hq : pc + 3 = q) (kt : P → V l G y cc nL ret R mc ms Z post L M cells slots lv t st) (kf : ¬ P → V l G y cc nL ret R mc ms Z post L M cells slots lv q st) : V l G y cc nL ret R mc ms Z post L M cells slots lv pc (.int (bi P) :: st) :=
  V_if_ne t q d ht hq (fun h => kt (Decidable.not_not.mp (fun e => h (bi_0.mpr e)))) (fun h => kf (bi_0.mp h))
/-- the value on top, another name -/
theorem V_top {v w : Value} (h : v = w) (kk : V l G y cc nL ret R mc ms Z post L M cells slots lv pc (w :: st)) : V l G y cc nL ret R mc ms Z post L M cells slots lv pc (v :: st) := by
  subst h; exact kk
theorem V_topi {x z : Int32} (h : x = z) (kk : V l G y cc nL ret R mc ms Z post L M cells slots lv pc (.int z :: st)) : V l G y cc nL ret R mc ms Z post L M cells slots lv pc (.int x :: st) := by
  subst h; exact kk
end gBr
abbrev kI : gK := .inl (0, 6, none)
def gLP (L : gLy) (b : Nat) : Prop := L b = some (.inr (7, [some (.ref (b + 1)), some (.ref (b + 2)), some (.ref (b + 3)), none])) ∧ L (b + 1) = some (.inl (0, 40, none)) ∧ L (b + 2) = some (.inl (0, 40, none)) ∧ L (b + 3) = some (.inl (0, 40, none))
def gLF (L : gLy) (b : Nat) : Prop := L b = some (.inr (5, [none, none, none, none, none, none]))
def gLR (L : gLy) (c n : Nat) : Prop := L c = some (.inr (3, [none, none, some (.ref n), none, none, none])) ∧ L n = some (.inl (0, 4, none))
/-- the class's own places but its list -/
def gLC (L : gLy) : Prop :=
  L 2 = some (.inr (9, [none, some (.ref 3), some (.ref 4), some (.ref 6), some (.ref 10), some (.ref 20), some (.ref 22), some (.ref 23), some (.ref 24), some (.ref 25)])) ∧
  L 3 = some (.inl (0, 4, none)) ∧
  L 4 = some (.inr (4, [some (.ref 5), none])) ∧
  gLP L 6 ∧
  L 10 = some (.inr (8, [some (.ref 4), some (.ref 11), some (.ref 15), some (.ref 16), some (.ref 17), some (.ref 18), some (.ref 19), none, none])) ∧
  gLP L 11 ∧
  L 15 = some (.inl (0, 756, none)) ∧ L 16 = some (.inl (0, 756, none)) ∧ L 17 = some (.inl (0, 756, none)) ∧ L 18 = some (.inl (0, 756, none)) ∧ L 19 = some (.inl (0, 756, none)) ∧
  L 20 = some (.inr (2, [some (.ref 4), some (.ref 21)])) ∧
  L 21 = some (.inl (3, 40, some (some (fun k => if k < 40 then some (100 + k) else none)))) ∧
  L 22 = some (.inr (1, [none, none])) ∧
  L 23 = some (.inr (6, [none])) ∧
  L 24 = some (.inl (0, 6, none)) ∧ L 25 = some (.inl (0, 6, none)) ∧
  ∀ k, k < 40 → gLF L (100 + k)
theorem lC2 {L : gLy} (h : gLC L) : L 2 = some (.inr (9, [none, some (.ref 3), some (.ref 4), some (.ref 6), some (.ref 10), some (.ref 20), some (.ref 22), some (.ref 23), some (.ref 24), some (.ref 25)])) := h.1
theorem lC3 {L : gLy} (h : gLC L) : L 3 = some (.inl (0, 4, none)) := h.2.1
theorem lC4 {L : gLy} (h : gLC L) : L 4 = some (.inr (4, [some (.ref 5), none])) := h.2.2.1
theorem lC6 {L : gLy} (h : gLC L) : gLP L 6 := h.2.2.2.1
theorem lC10 {L : gLy} (h : gLC L) : L 10 = some (.inr (8, [some (.ref 4), some (.ref 11), some (.ref 15), some (.ref 16), some (.ref 17), some (.ref 18), some (.ref 19), none, none])) := h.2.2.2.2.1
theorem lC11 {L : gLy} (h : gLC L) : gLP L 11 := h.2.2.2.2.2.1
theorem lC15 {L : gLy} (h : gLC L) : L 15 = some (.inl (0, 756, none)) := h.2.2.2.2.2.2.1
theorem lC16 {L : gLy} (h : gLC L) : L 16 = some (.inl (0, 756, none)) := h.2.2.2.2.2.2.2.1
theorem lC17 {L : gLy} (h : gLC L) : L 17 = some (.inl (0, 756, none)) := h.2.2.2.2.2.2.2.2.1
theorem lC18 {L : gLy} (h : gLC L) : L 18 = some (.inl (0, 756, none)) := h.2.2.2.2.2.2.2.2.2.1
theorem lC19 {L : gLy} (h : gLC L) : L 19 = some (.inl (0, 756, none)) := h.2.2.2.2.2.2.2.2.2.2.1
theorem lC20 {L : gLy} (h : gLC L) : L 20 = some (.inr (2, [some (.ref 4), some (.ref 21)])) := h.2.2.2.2.2.2.2.2.2.2.2.1
theorem lC21 {L : gLy} (h : gLC L) : L 21 = some (.inl (3, 40, some (some (fun k => if k < 40 then some (100 + k) else none)))) := h.2.2.2.2.2.2.2.2.2.2.2.2.1
theorem lC22 {L : gLy} (h : gLC L) : L 22 = some (.inr (1, [none, none])) := h.2.2.2.2.2.2.2.2.2.2.2.2.2.1
theorem lC23 {L : gLy} (h : gLC L) : L 23 = some (.inr (6, [none])) := h.2.2.2.2.2.2.2.2.2.2.2.2.2.2.1
theorem lC24 {L : gLy} (h : gLC L) : L 24 = some (.inl (0, 6, none)) := h.2.2.2.2.2.2.2.2.2.2.2.2.2.2.2.1
theorem lC25 {L : gLy} (h : gLC L) : L 25 = some (.inl (0, 6, none)) := h.2.2.2.2.2.2.2.2.2.2.2.2.2.2.2.2.1
theorem lCF {L : gLy} (h : gLC L) {k : Nat} (hk : k < 40) : gLF L (100 + k) := h.2.2.2.2.2.2.2.2.2.2.2.2.2.2.2.2.2 k hk
/-- the reference -/
def fsM : List (Option Value) := [none, none, none, none, none, some (.ref 401), some (.ref 402), some (.ref 403), none, none, none, some (.ref 404), some (.ref 405), some (.ref 406), some (.ref 407), some (.ref 408), some (.ref 409), some (.ref 410), some (.ref 411), some (.ref 412), some (.ref 413), none, none, some (.ref 414), some (.ref 415), some (.ref 416), some (.ref 417), some (.ref 418), some (.ref 419), some (.ref 420), some (.ref 421), some (.ref 422), some (.ref 423), some (.ref 424), some (.ref 425), some (.ref 426), none, none]
def szM (a : Nat) : Nat × Nat := match a with
  | 401 => (1, 6)
  | 402 => (0, 6)
  | 403 => (0, 6)
  | 412 => (1, 25)
  | 413 => (0, 4)
  | 414 => (0, 40)
  | 415 => (0, 40)
  | 416 => (0, 40)
  | 417 => (0, 160)
  | 418 => (0, 760)
  | 419 => (0, 760)
  | 420 => (0, 760)
  | 421 => (0, 756)
  | 422 => (0, 756)
  | 423 => (0, 756)
  | 424 => (0, 756)
  | 425 => (0, 756)
  | 426 => (0, 760)
  | _ => (0, 25)
def gLM (L : gLy) : Prop := L 400 = some (.inr (10, fsM)) ∧ ∀ a, 401 ≤ a → a < 427 → L a = some (.inl ((szM a).1, (szM a).2, none))
theorem lM {L : gLy} (h : gLM L) : L 400 = some (.inr (10, fsM)) := h.1
theorem lM401 {L : gLy} (h : gLM L) : L 401 = some (.inl (1, 6, none)) := h.2 401 (by decide) (by decide)
theorem lM402 {L : gLy} (h : gLM L) : L 402 = some (.inl (0, 6, none)) := h.2 402 (by decide) (by decide)
theorem lM403 {L : gLy} (h : gLM L) : L 403 = some (.inl (0, 6, none)) := h.2 403 (by decide) (by decide)
theorem lM404 {L : gLy} (h : gLM L) : L 404 = some (.inl (0, 25, none)) := h.2 404 (by decide) (by decide)
theorem lM405 {L : gLy} (h : gLM L) : L 405 = some (.inl (0, 25, none)) := h.2 405 (by decide) (by decide)
theorem lM406 {L : gLy} (h : gLM L) : L 406 = some (.inl (0, 25, none)) := h.2 406 (by decide) (by decide)
theorem lM407 {L : gLy} (h : gLM L) : L 407 = some (.inl (0, 25, none)) := h.2 407 (by decide) (by decide)
theorem lM408 {L : gLy} (h : gLM L) : L 408 = some (.inl (0, 25, none)) := h.2 408 (by decide) (by decide)
theorem lM409 {L : gLy} (h : gLM L) : L 409 = some (.inl (0, 25, none)) := h.2 409 (by decide) (by decide)
theorem lM410 {L : gLy} (h : gLM L) : L 410 = some (.inl (0, 25, none)) := h.2 410 (by decide) (by decide)
theorem lM411 {L : gLy} (h : gLM L) : L 411 = some (.inl (0, 25, none)) := h.2 411 (by decide) (by decide)
theorem lM412 {L : gLy} (h : gLM L) : L 412 = some (.inl (1, 25, none)) := h.2 412 (by decide) (by decide)
theorem lM413 {L : gLy} (h : gLM L) : L 413 = some (.inl (0, 4, none)) := h.2 413 (by decide) (by decide)
theorem lM414 {L : gLy} (h : gLM L) : L 414 = some (.inl (0, 40, none)) := h.2 414 (by decide) (by decide)
theorem lM415 {L : gLy} (h : gLM L) : L 415 = some (.inl (0, 40, none)) := h.2 415 (by decide) (by decide)
theorem lM416 {L : gLy} (h : gLM L) : L 416 = some (.inl (0, 40, none)) := h.2 416 (by decide) (by decide)
theorem lM417 {L : gLy} (h : gLM L) : L 417 = some (.inl (0, 160, none)) := h.2 417 (by decide) (by decide)
theorem lM418 {L : gLy} (h : gLM L) : L 418 = some (.inl (0, 760, none)) := h.2 418 (by decide) (by decide)
theorem lM419 {L : gLy} (h : gLM L) : L 419 = some (.inl (0, 760, none)) := h.2 419 (by decide) (by decide)
theorem lM420 {L : gLy} (h : gLM L) : L 420 = some (.inl (0, 760, none)) := h.2 420 (by decide) (by decide)
theorem lM421 {L : gLy} (h : gLM L) : L 421 = some (.inl (0, 756, none)) := h.2 421 (by decide) (by decide)
theorem lM422 {L : gLy} (h : gLM L) : L 422 = some (.inl (0, 756, none)) := h.2 422 (by decide) (by decide)
theorem lM423 {L : gLy} (h : gLM L) : L 423 = some (.inl (0, 756, none)) := h.2 423 (by decide) (by decide)
theorem lM424 {L : gLy} (h : gLM L) : L 424 = some (.inl (0, 756, none)) := h.2 424 (by decide) (by decide)
theorem lM425 {L : gLy} (h : gLM L) : L 425 = some (.inl (0, 756, none)) := h.2 425 (by decide) (by decide)
theorem lM426 {L : gLy} (h : gLM L) : L 426 = some (.inl (0, 760, none)) := h.2 426 (by decide) (by decide)

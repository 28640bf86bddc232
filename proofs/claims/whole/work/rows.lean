section
-- ===== PART A: goes FIRST, ahead of the names: the tables' words, and 'selects' of the private methods out of them =====
/-- a private method of a class that the tables say can be made, by its rows of tables_1 -/
def lw_okq (q : MethodName × Nat) : Prop := (q.1.cls ≠ "java/lang/invoke/MethodHandle" ∧ q.1.cls ≠ "java/lang/invoke/VarHandle") ∧ Cond.instantiable q.1.cls q.2 ∈ tables_1 ∧ Cond.privateMethod q.1 ∈ tables_1 ∧ Cond.instanceMethod q.1 ∈ tables_1
theorem lw_p0 : lw_okq (⟨"ProofGate", "sealOf", "(LProofGate$Credential;)I"⟩, 10) := ⟨⟨by decide +kernel, by decide +kernel⟩, List.mem_of_getElem? (i := 28) (by decide +kernel), List.mem_of_getElem? (i := 280) (by decide +kernel), List.mem_of_getElem? (i := 281) (by decide +kernel)⟩
theorem lw_p1 : lw_okq (⟨"ProofGate$Credential", "mark", "()I"⟩, 6) := ⟨⟨by decide +kernel, by decide +kernel⟩, List.mem_of_getElem? (i := 236) (by decide +kernel), List.mem_of_getElem? (i := 284) (by decide +kernel), List.mem_of_getElem? (i := 285) (by decide +kernel)⟩
theorem lw_p2 : lw_okq (⟨"ProofGate$Credentials", "letTimeGoOn", "(I)I"⟩, 2) := ⟨⟨by decide +kernel, by decide +kernel⟩, List.mem_of_getElem? (i := 36) (by decide +kernel), List.mem_of_getElem? (i := 301) (by decide +kernel), List.mem_of_getElem? (i := 302) (by decide +kernel)⟩
theorem lw_p3 : lw_okq (⟨"ProofGate$Proof", "append", "(III)I"⟩, 4) := ⟨⟨by decide +kernel, by decide +kernel⟩, List.mem_of_getElem? (i := 76) (by decide +kernel), List.mem_of_getElem? (i := 309) (by decide +kernel), List.mem_of_getElem? (i := 310) (by decide +kernel)⟩
theorem lw_p4 : lw_okq (⟨"ProofGate$Proof", "makeEmpty", "()I"⟩, 4) := ⟨⟨by decide +kernel, by decide +kernel⟩, List.mem_of_getElem? (i := 76) (by decide +kernel), List.mem_of_getElem? (i := 317) (by decide +kernel), List.mem_of_getElem? (i := 318) (by decide +kernel)⟩
theorem lw_p5 : lw_okq (⟨"ProofGate$Proof", "length", "()I"⟩, 4) := ⟨⟨by decide +kernel, by decide +kernel⟩, List.mem_of_getElem? (i := 76) (by decide +kernel), List.mem_of_getElem? (i := 325) (by decide +kernel), List.mem_of_getElem? (i := 326) (by decide +kernel)⟩
theorem lw_p6 : lw_okq (⟨"ProofGate$Proof", "hasStep", "(I)Z"⟩, 4) := ⟨⟨by decide +kernel, by decide +kernel⟩, List.mem_of_getElem? (i := 76) (by decide +kernel), List.mem_of_getElem? (i := 333) (by decide +kernel), List.mem_of_getElem? (i := 334) (by decide +kernel)⟩
theorem lw_p7 : lw_okq (⟨"ProofGate$Proof", "ruleAt", "(I)I"⟩, 4) := ⟨⟨by decide +kernel, by decide +kernel⟩, List.mem_of_getElem? (i := 76) (by decide +kernel), List.mem_of_getElem? (i := 337) (by decide +kernel), List.mem_of_getElem? (i := 338) (by decide +kernel)⟩
theorem lw_p8 : lw_okq (⟨"ProofGate$Proof", "xAt", "(I)I"⟩, 4) := ⟨⟨by decide +kernel, by decide +kernel⟩, List.mem_of_getElem? (i := 76) (by decide +kernel), List.mem_of_getElem? (i := 341) (by decide +kernel), List.mem_of_getElem? (i := 342) (by decide +kernel)⟩
theorem lw_p9 : lw_okq (⟨"ProofGate$Proof", "yAt", "(I)I"⟩, 4) := ⟨⟨by decide +kernel, by decide +kernel⟩, List.mem_of_getElem? (i := 76) (by decide +kernel), List.mem_of_getElem? (i := 345) (by decide +kernel), List.mem_of_getElem? (i := 346) (by decide +kernel)⟩
theorem lw_p10 : lw_okq (⟨"ProofGate", "isOpenTo", "(II)Z"⟩, 10) := ⟨⟨by decide +kernel, by decide +kernel⟩, List.mem_of_getElem? (i := 28) (by decide +kernel), List.mem_of_getElem? (i := 362) (by decide +kernel), List.mem_of_getElem? (i := 363) (by decide +kernel)⟩
theorem lw_p11 : lw_okq (⟨"ProofGate", "sayerOfGoal", "(II)I"⟩, 10) := ⟨⟨by decide +kernel, by decide +kernel⟩, List.mem_of_getElem? (i := 28) (by decide +kernel), List.mem_of_getElem? (i := 366) (by decide +kernel), List.mem_of_getElem? (i := 367) (by decide +kernel)⟩
theorem lw_p12 : lw_okq (⟨"ProofGate$Prover", "writeProof", "(IIII)I"⟩, 9) := ⟨⟨by decide +kernel, by decide +kernel⟩, List.mem_of_getElem? (i := 95) (by decide +kernel), List.mem_of_getElem? (i := 370) (by decide +kernel), List.mem_of_getElem? (i := 371) (by decide +kernel)⟩
theorem lw_p13 : lw_okq (⟨"ProofGate$Prover", "finds", "(II)Z"⟩, 9) := ⟨⟨by decide +kernel, by decide +kernel⟩, List.mem_of_getElem? (i := 95) (by decide +kernel), List.mem_of_getElem? (i := 377) (by decide +kernel), List.mem_of_getElem? (i := 378) (by decide +kernel)⟩
theorem lw_p14 : lw_okq (⟨"ProofGate$Prover", "findWhatIsSaid", "(I)V"⟩, 9) := ⟨⟨by decide +kernel, by decide +kernel⟩, List.mem_of_getElem? (i := 95) (by decide +kernel), List.mem_of_getElem? (i := 382) (by decide +kernel), List.mem_of_getElem? (i := 383) (by decide +kernel)⟩
theorem lw_p15 : lw_okq (⟨"ProofGate$Credentials", "count", "()I"⟩, 2) := ⟨⟨by decide +kernel, by decide +kernel⟩, List.mem_of_getElem? (i := 36) (by decide +kernel), List.mem_of_getElem? (i := 386) (by decide +kernel), List.mem_of_getElem? (i := 387) (by decide +kernel)⟩
def lw_privs_1 : List (MethodName × Nat) := [(⟨"ProofGate", "sealOf", "(LProofGate$Credential;)I"⟩, 10), (⟨"ProofGate$Credential", "mark", "()I"⟩, 6), (⟨"ProofGate$Credentials", "letTimeGoOn", "(I)I"⟩, 2), (⟨"ProofGate$Proof", "append", "(III)I"⟩, 4), (⟨"ProofGate$Proof", "makeEmpty", "()I"⟩, 4), (⟨"ProofGate$Proof", "length", "()I"⟩, 4), (⟨"ProofGate$Proof", "hasStep", "(I)Z"⟩, 4), (⟨"ProofGate$Proof", "ruleAt", "(I)I"⟩, 4), (⟨"ProofGate$Proof", "xAt", "(I)I"⟩, 4), (⟨"ProofGate$Proof", "yAt", "(I)I"⟩, 4), (⟨"ProofGate", "isOpenTo", "(II)Z"⟩, 10), (⟨"ProofGate", "sayerOfGoal", "(II)I"⟩, 10), (⟨"ProofGate$Prover", "writeProof", "(IIII)I"⟩, 9), (⟨"ProofGate$Prover", "finds", "(II)Z"⟩, 9), (⟨"ProofGate$Prover", "findWhatIsSaid", "(I)V"⟩, 9), (⟨"ProofGate$Credentials", "count", "()I"⟩, 2)]
theorem lw_r1 : ∀ q ∈ lw_privs_1, lw_okq q := List.forall_mem_cons.mpr ⟨lw_p0, List.forall_mem_cons.mpr ⟨lw_p1, List.forall_mem_cons.mpr ⟨lw_p2, List.forall_mem_cons.mpr ⟨lw_p3, List.forall_mem_cons.mpr ⟨lw_p4, List.forall_mem_cons.mpr ⟨lw_p5, List.forall_mem_cons.mpr ⟨lw_p6, List.forall_mem_cons.mpr ⟨lw_p7, List.forall_mem_cons.mpr ⟨lw_p8, List.forall_mem_cons.mpr ⟨lw_p9, List.forall_mem_cons.mpr ⟨lw_p10, List.forall_mem_cons.mpr ⟨lw_p11, List.forall_mem_cons.mpr ⟨lw_p12, List.forall_mem_cons.mpr ⟨lw_p13, List.forall_mem_cons.mpr ⟨lw_p14, List.forall_mem_cons.mpr ⟨lw_p15, fun _ h => absurd h List.not_mem_nil⟩⟩⟩⟩⟩⟩⟩⟩⟩⟩⟩⟩⟩⟩⟩⟩
theorem lw_p16 : lw_okq (⟨"ProofGate$Credentials", "findValid", "(I)LProofGate$Credential;"⟩, 2) := ⟨⟨by decide +kernel, by decide +kernel⟩, List.mem_of_getElem? (i := 36) (by decide +kernel), List.mem_of_getElem? (i := 394) (by decide +kernel), List.mem_of_getElem? (i := 395) (by decide +kernel)⟩
theorem lw_p17 : lw_okq (⟨"ProofGate$Credentials", "find", "(I)LProofGate$Credential;"⟩, 2) := ⟨⟨by decide +kernel, by decide +kernel⟩, List.mem_of_getElem? (i := 36) (by decide +kernel), List.mem_of_getElem? (i := 398) (by decide +kernel), List.mem_of_getElem? (i := 399) (by decide +kernel)⟩
theorem lw_p18 : lw_okq (⟨"ProofGate$Credential", "isValidAt", "(I)Z"⟩, 6) := ⟨⟨by decide +kernel, by decide +kernel⟩, List.mem_of_getElem? (i := 236) (by decide +kernel), List.mem_of_getElem? (i := 417) (by decide +kernel), List.mem_of_getElem? (i := 418) (by decide +kernel)⟩
theorem lw_p19 : lw_okq (⟨"ProofGate$Prover", "reach", "(IIII)V"⟩, 9) := ⟨⟨by decide +kernel, by decide +kernel⟩, List.mem_of_getElem? (i := 95) (by decide +kernel), List.mem_of_getElem? (i := 430) (by decide +kernel), List.mem_of_getElem? (i := 431) (by decide +kernel)⟩
theorem lw_p20 : lw_okq (⟨"ProofGate$Prover", "findWhatFollows", "()V"⟩, 9) := ⟨⟨by decide +kernel, by decide +kernel⟩, List.mem_of_getElem? (i := 95) (by decide +kernel), List.mem_of_getElem? (i := 434) (by decide +kernel), List.mem_of_getElem? (i := 435) (by decide +kernel)⟩
theorem lw_p21 : lw_okq (⟨"ProofGate$Prover", "findMayByVoice", "()V"⟩, 9) := ⟨⟨by decide +kernel, by decide +kernel⟩, List.mem_of_getElem? (i := 95) (by decide +kernel), List.mem_of_getElem? (i := 438) (by decide +kernel), List.mem_of_getElem? (i := 439) (by decide +kernel)⟩
theorem lw_p22 : lw_okq (⟨"ProofGate$Prover", "isKnown", "(I)Z"⟩, 9) := ⟨⟨by decide +kernel, by decide +kernel⟩, List.mem_of_getElem? (i := 95) (by decide +kernel), List.mem_of_getElem? (i := 442) (by decide +kernel), List.mem_of_getElem? (i := 443) (by decide +kernel)⟩
theorem lw_p23 : lw_okq (⟨"ProofGate$Prover", "handOnMay", "(IIIII)V"⟩, 9) := ⟨⟨by decide +kernel, by decide +kernel⟩, List.mem_of_getElem? (i := 95) (by decide +kernel), List.mem_of_getElem? (i := 446) (by decide +kernel), List.mem_of_getElem? (i := 447) (by decide +kernel)⟩
theorem lw_p24 : lw_okq (⟨"ProofGate$Prover", "findMayByTrust", "()V"⟩, 9) := ⟨⟨by decide +kernel, by decide +kernel⟩, List.mem_of_getElem? (i := 95) (by decide +kernel), List.mem_of_getElem? (i := 450) (by decide +kernel), List.mem_of_getElem? (i := 451) (by decide +kernel)⟩
theorem lw_p25 : lw_okq (⟨"ProofGate$Prover", "findTrustByTrust", "()V"⟩, 9) := ⟨⟨by decide +kernel, by decide +kernel⟩, List.mem_of_getElem? (i := 95) (by decide +kernel), List.mem_of_getElem? (i := 454) (by decide +kernel), List.mem_of_getElem? (i := 455) (by decide +kernel)⟩
theorem lw_p26 : lw_okq (⟨"ProofGate$Prover", "handOnTrust", "(IIIIII)V"⟩, 9) := ⟨⟨by decide +kernel, by decide +kernel⟩, List.mem_of_getElem? (i := 95) (by decide +kernel), List.mem_of_getElem? (i := 458) (by decide +kernel), List.mem_of_getElem? (i := 459) (by decide +kernel)⟩
theorem lw_p27 : lw_okq (⟨"ProofGate$Prover", "findTrustByVoice", "()V"⟩, 9) := ⟨⟨by decide +kernel, by decide +kernel⟩, List.mem_of_getElem? (i := 95) (by decide +kernel), List.mem_of_getElem? (i := 465) (by decide +kernel), List.mem_of_getElem? (i := 466) (by decide +kernel)⟩
theorem lw_p28 : lw_okq (⟨"ProofGate$Prover", "findVoiceByVoice", "()V"⟩, 9) := ⟨⟨by decide +kernel, by decide +kernel⟩, List.mem_of_getElem? (i := 95) (by decide +kernel), List.mem_of_getElem? (i := 469) (by decide +kernel), List.mem_of_getElem? (i := 470) (by decide +kernel)⟩
theorem lw_p29 : lw_okq (⟨"ProofGate$Prover", "handOnVoice", "(II)V"⟩, 9) := ⟨⟨by decide +kernel, by decide +kernel⟩, List.mem_of_getElem? (i := 95) (by decide +kernel), List.mem_of_getElem? (i := 473) (by decide +kernel), List.mem_of_getElem? (i := 474) (by decide +kernel)⟩
theorem lw_p30 : lw_okq (⟨"ProofGate$Prover", "findImplied", "()V"⟩, 9) := ⟨⟨by decide +kernel, by decide +kernel⟩, List.mem_of_getElem? (i := 95) (by decide +kernel), List.mem_of_getElem? (i := 477) (by decide +kernel), List.mem_of_getElem? (i := 478) (by decide +kernel)⟩
theorem lw_p31 : lw_okq (⟨"ProofGate$Prover", "applyImply", "(IIII)V"⟩, 9) := ⟨⟨by decide +kernel, by decide +kernel⟩, List.mem_of_getElem? (i := 95) (by decide +kernel), List.mem_of_getElem? (i := 481) (by decide +kernel), List.mem_of_getElem? (i := 482) (by decide +kernel)⟩
def lw_privs_2 : List (MethodName × Nat) := [(⟨"ProofGate$Credentials", "findValid", "(I)LProofGate$Credential;"⟩, 2), (⟨"ProofGate$Credentials", "find", "(I)LProofGate$Credential;"⟩, 2), (⟨"ProofGate$Credential", "isValidAt", "(I)Z"⟩, 6), (⟨"ProofGate$Prover", "reach", "(IIII)V"⟩, 9), (⟨"ProofGate$Prover", "findWhatFollows", "()V"⟩, 9), (⟨"ProofGate$Prover", "findMayByVoice", "()V"⟩, 9), (⟨"ProofGate$Prover", "isKnown", "(I)Z"⟩, 9), (⟨"ProofGate$Prover", "handOnMay", "(IIIII)V"⟩, 9), (⟨"ProofGate$Prover", "findMayByTrust", "()V"⟩, 9), (⟨"ProofGate$Prover", "findTrustByTrust", "()V"⟩, 9), (⟨"ProofGate$Prover", "handOnTrust", "(IIIIII)V"⟩, 9), (⟨"ProofGate$Prover", "findTrustByVoice", "()V"⟩, 9), (⟨"ProofGate$Prover", "findVoiceByVoice", "()V"⟩, 9), (⟨"ProofGate$Prover", "handOnVoice", "(II)V"⟩, 9), (⟨"ProofGate$Prover", "findImplied", "()V"⟩, 9), (⟨"ProofGate$Prover", "applyImply", "(IIII)V"⟩, 9)]
theorem lw_r2 : ∀ q ∈ lw_privs_2, lw_okq q := List.forall_mem_cons.mpr ⟨lw_p16, List.forall_mem_cons.mpr ⟨lw_p17, List.forall_mem_cons.mpr ⟨lw_p18, List.forall_mem_cons.mpr ⟨lw_p19, List.forall_mem_cons.mpr ⟨lw_p20, List.forall_mem_cons.mpr ⟨lw_p21, List.forall_mem_cons.mpr ⟨lw_p22, List.forall_mem_cons.mpr ⟨lw_p23, List.forall_mem_cons.mpr ⟨lw_p24, List.forall_mem_cons.mpr ⟨lw_p25, List.forall_mem_cons.mpr ⟨lw_p26, List.forall_mem_cons.mpr ⟨lw_p27, List.forall_mem_cons.mpr ⟨lw_p28, List.forall_mem_cons.mpr ⟨lw_p29, List.forall_mem_cons.mpr ⟨lw_p30, List.forall_mem_cons.mpr ⟨lw_p31, fun _ h => absurd h List.not_mem_nil⟩⟩⟩⟩⟩⟩⟩⟩⟩⟩⟩⟩⟩⟩⟩⟩
theorem lw_p32 : lw_okq (⟨"ProofGate$Prover", "writesStep", "(II)Z"⟩, 9) := ⟨⟨by decide +kernel, by decide +kernel⟩, List.mem_of_getElem? (i := 95) (by decide +kernel), List.mem_of_getElem? (i := 486) (by decide +kernel), List.mem_of_getElem? (i := 487) (by decide +kernel)⟩
theorem lw_p33 : lw_okq (⟨"ProofGate$Prover", "written", "()LProofGate$Proof;"⟩, 9) := ⟨⟨by decide +kernel, by decide +kernel⟩, List.mem_of_getElem? (i := 95) (by decide +kernel), List.mem_of_getElem? (i := 492) (by decide +kernel), List.mem_of_getElem? (i := 493) (by decide +kernel)⟩
theorem lw_p34 : lw_okq (⟨"ProofGate$Proof", "become", "(LProofGate$Proof;)V"⟩, 4) := ⟨⟨by decide +kernel, by decide +kernel⟩, List.mem_of_getElem? (i := 76) (by decide +kernel), List.mem_of_getElem? (i := 496) (by decide +kernel), List.mem_of_getElem? (i := 497) (by decide +kernel)⟩
theorem lw_p35 : lw_okq (⟨"ProofGate$Checker", "accepts", "(LProofGate$Proof;IIII)Z"⟩, 2) := ⟨⟨by decide +kernel, by decide +kernel⟩, List.mem_of_getElem? (i := 131) (by decide +kernel), List.mem_of_getElem? (i := 507) (by decide +kernel), List.mem_of_getElem? (i := 508) (by decide +kernel)⟩
theorem lw_p36 : lw_okq (⟨"ProofGate$Checker", "follows", "(IIII)Z"⟩, 2) := ⟨⟨by decide +kernel, by decide +kernel⟩, List.mem_of_getElem? (i := 131) (by decide +kernel), List.mem_of_getElem? (i := 515) (by decide +kernel), List.mem_of_getElem? (i := 516) (by decide +kernel)⟩
theorem lw_p37 : lw_okq (⟨"ProofGate$Fact", "becomeSaidBy", "(LProofGate$Credential;)V"⟩, 6) := ⟨⟨by decide +kernel, by decide +kernel⟩, List.mem_of_getElem? (i := 138) (by decide +kernel), List.mem_of_getElem? (i := 523) (by decide +kernel), List.mem_of_getElem? (i := 524) (by decide +kernel)⟩
theorem lw_p38 : lw_okq (⟨"ProofGate$Fact", "become", "(LProofGate$Fact;)V"⟩, 6) := ⟨⟨by decide +kernel, by decide +kernel⟩, List.mem_of_getElem? (i := 138) (by decide +kernel), List.mem_of_getElem? (i := 530) (by decide +kernel), List.mem_of_getElem? (i := 531) (by decide +kernel)⟩
theorem lw_p39 : lw_okq (⟨"ProofGate$Fact", "isOfSameThing", "(LProofGate$Fact;)Z"⟩, 6) := ⟨⟨by decide +kernel, by decide +kernel⟩, List.mem_of_getElem? (i := 138) (by decide +kernel), List.mem_of_getElem? (i := 540) (by decide +kernel), List.mem_of_getElem? (i := 541) (by decide +kernel)⟩
theorem lw_p40 : lw_okq (⟨"ProofGate$Fact", "isMay", "(IIII)Z"⟩, 6) := ⟨⟨by decide +kernel, by decide +kernel⟩, List.mem_of_getElem? (i := 138) (by decide +kernel), List.mem_of_getElem? (i := 548) (by decide +kernel), List.mem_of_getElem? (i := 549) (by decide +kernel)⟩
theorem lw_p41 : lw_okq (⟨"ProofGate$Fuse", "light", "(I)V"⟩, 1) := ⟨⟨by decide +kernel, by decide +kernel⟩, List.mem_of_getElem? (i := 188) (by decide +kernel), List.mem_of_getElem? (i := 556) (by decide +kernel), List.mem_of_getElem? (i := 557) (by decide +kernel)⟩
theorem lw_p42 : lw_okq (⟨"ProofGate$AuditLog", "count", "()I"⟩, 2) := ⟨⟨by decide +kernel, by decide +kernel⟩, List.mem_of_getElem? (i := 175) (by decide +kernel), List.mem_of_getElem? (i := 578) (by decide +kernel), List.mem_of_getElem? (i := 579) (by decide +kernel)⟩
theorem lw_p43 : lw_okq (⟨"ProofGate$AuditLog", "link", "()I"⟩, 2) := ⟨⟨by decide +kernel, by decide +kernel⟩, List.mem_of_getElem? (i := 175) (by decide +kernel), List.mem_of_getElem? (i := 586) (by decide +kernel), List.mem_of_getElem? (i := 587) (by decide +kernel)⟩
theorem lw_p44 : lw_okq (⟨"ProofGate$Credential", "isWellFormed", "()Z"⟩, 6) := ⟨⟨by decide +kernel, by decide +kernel⟩, List.mem_of_getElem? (i := 236) (by decide +kernel), List.mem_of_getElem? (i := 603) (by decide +kernel), List.mem_of_getElem? (i := 604) (by decide +kernel)⟩
theorem lw_p45 : lw_okq (⟨"java/lang/Throwable", "fillInStackTrace", "(I)Ljava/lang/Throwable;"⟩, 6) := ⟨⟨by decide +kernel, by decide +kernel⟩, List.mem_of_getElem? (i := 647) (by decide +kernel), List.mem_of_getElem? (i := 645) (by decide +kernel), List.mem_of_getElem? (i := 646) (by decide +kernel)⟩
theorem lw_p46 : lw_okq (⟨"ProofGate", "writeRecord", "()V"⟩, 10) := ⟨⟨by decide +kernel, by decide +kernel⟩, List.mem_of_getElem? (i := 28) (by decide +kernel), List.mem_of_getElem? (i := 709) (by decide +kernel), List.mem_of_getElem? (i := 710) (by decide +kernel)⟩
theorem lw_p47 : lw_okq (⟨"ProofGate$Fuse", "burnsThrough", "()Z"⟩, 1) := ⟨⟨by decide +kernel, by decide +kernel⟩, List.mem_of_getElem? (i := 188) (by decide +kernel), List.mem_of_getElem? (i := 713) (by decide +kernel), List.mem_of_getElem? (i := 714) (by decide +kernel)⟩
def lw_privs_3 : List (MethodName × Nat) := [(⟨"ProofGate$Prover", "writesStep", "(II)Z"⟩, 9), (⟨"ProofGate$Prover", "written", "()LProofGate$Proof;"⟩, 9), (⟨"ProofGate$Proof", "become", "(LProofGate$Proof;)V"⟩, 4), (⟨"ProofGate$Checker", "accepts", "(LProofGate$Proof;IIII)Z"⟩, 2), (⟨"ProofGate$Checker", "follows", "(IIII)Z"⟩, 2), (⟨"ProofGate$Fact", "becomeSaidBy", "(LProofGate$Credential;)V"⟩, 6), (⟨"ProofGate$Fact", "become", "(LProofGate$Fact;)V"⟩, 6), (⟨"ProofGate$Fact", "isOfSameThing", "(LProofGate$Fact;)Z"⟩, 6), (⟨"ProofGate$Fact", "isMay", "(IIII)Z"⟩, 6), (⟨"ProofGate$Fuse", "light", "(I)V"⟩, 1), (⟨"ProofGate$AuditLog", "count", "()I"⟩, 2), (⟨"ProofGate$AuditLog", "link", "()I"⟩, 2), (⟨"ProofGate$Credential", "isWellFormed", "()Z"⟩, 6), (⟨"java/lang/Throwable", "fillInStackTrace", "(I)Ljava/lang/Throwable;"⟩, 6), (⟨"ProofGate", "writeRecord", "()V"⟩, 10), (⟨"ProofGate$Fuse", "burnsThrough", "()Z"⟩, 1)]
theorem lw_r3 : ∀ q ∈ lw_privs_3, lw_okq q := List.forall_mem_cons.mpr ⟨lw_p32, List.forall_mem_cons.mpr ⟨lw_p33, List.forall_mem_cons.mpr ⟨lw_p34, List.forall_mem_cons.mpr ⟨lw_p35, List.forall_mem_cons.mpr ⟨lw_p36, List.forall_mem_cons.mpr ⟨lw_p37, List.forall_mem_cons.mpr ⟨lw_p38, List.forall_mem_cons.mpr ⟨lw_p39, List.forall_mem_cons.mpr ⟨lw_p40, List.forall_mem_cons.mpr ⟨lw_p41, List.forall_mem_cons.mpr ⟨lw_p42, List.forall_mem_cons.mpr ⟨lw_p43, List.forall_mem_cons.mpr ⟨lw_p44, List.forall_mem_cons.mpr ⟨lw_p45, List.forall_mem_cons.mpr ⟨lw_p46, List.forall_mem_cons.mpr ⟨lw_p47, fun _ h => absurd h List.not_mem_nil⟩⟩⟩⟩⟩⟩⟩⟩⟩⟩⟩⟩⟩⟩⟩⟩
theorem lw_p48 : lw_okq (⟨"ProofGate$Credentials", "take", "(LProofGate$Credential;)I"⟩, 2) := ⟨⟨by decide +kernel, by decide +kernel⟩, List.mem_of_getElem? (i := 36) (by decide +kernel), List.mem_of_getElem? (i := 718) (by decide +kernel), List.mem_of_getElem? (i := 719) (by decide +kernel)⟩
theorem lw_p49 : lw_okq (⟨"java/util/ArrayList", "add", "(Ljava/lang/Object;[Ljava/lang/Object;I)V"⟩, 3) := ⟨⟨by decide +kernel, by decide +kernel⟩, List.mem_of_getElem? (i := 42) (by decide +kernel), List.mem_of_getElem? (i := 726) (by decide +kernel), List.mem_of_getElem? (i := 727) (by decide +kernel)⟩
theorem lw_p50 : lw_okq (⟨"java/util/ArrayList", "grow", "()[Ljava/lang/Object;"⟩, 3) := ⟨⟨by decide +kernel, by decide +kernel⟩, List.mem_of_getElem? (i := 42) (by decide +kernel), List.mem_of_getElem? (i := 730) (by decide +kernel), List.mem_of_getElem? (i := 731) (by decide +kernel)⟩
theorem lw_p51 : lw_okq (⟨"java/util/ArrayList", "grow", "(I)[Ljava/lang/Object;"⟩, 3) := ⟨⟨by decide +kernel, by decide +kernel⟩, List.mem_of_getElem? (i := 42) (by decide +kernel), List.mem_of_getElem? (i := 734) (by decide +kernel), List.mem_of_getElem? (i := 735) (by decide +kernel)⟩
theorem lw_p52 : lw_okq (⟨"ProofGate", "useUpDraft", "(III)I"⟩, 10) := ⟨⟨by decide +kernel, by decide +kernel⟩, List.mem_of_getElem? (i := 28) (by decide +kernel), List.mem_of_getElem? (i := 815) (by decide +kernel), List.mem_of_getElem? (i := 816) (by decide +kernel)⟩
theorem lw_p53 : lw_okq (⟨"ProofGate$AuditLog", "addGrant", "(IIII)V"⟩, 2) := ⟨⟨by decide +kernel, by decide +kernel⟩, List.mem_of_getElem? (i := 175) (by decide +kernel), List.mem_of_getElem? (i := 820) (by decide +kernel), List.mem_of_getElem? (i := 821) (by decide +kernel)⟩
theorem lw_p54 : lw_okq (⟨"ProofGate", "carryOut", "(IIII)I"⟩, 10) := ⟨⟨by decide +kernel, by decide +kernel⟩, List.mem_of_getElem? (i := 28) (by decide +kernel), List.mem_of_getElem? (i := 824) (by decide +kernel), List.mem_of_getElem? (i := 825) (by decide +kernel)⟩
theorem lw_p55 : lw_okq (⟨"ProofGateModel", "isFit", "(I)Z"⟩, 38) := ⟨⟨by decide +kernel, by decide +kernel⟩, List.mem_of_getElem? (i := 828) (by decide +kernel), List.mem_of_getElem? (i := 981) (by decide +kernel), List.mem_of_getElem? (i := 982) (by decide +kernel)⟩
theorem lw_p56 : lw_okq (⟨"ProofGateModel", "fails", "(I)I"⟩, 38) := ⟨⟨by decide +kernel, by decide +kernel⟩, List.mem_of_getElem? (i := 828) (by decide +kernel), List.mem_of_getElem? (i := 988) (by decide +kernel), List.mem_of_getElem? (i := 989) (by decide +kernel)⟩
theorem lw_p57 : lw_okq (⟨"ProofGateModel", "recorded", "()Z"⟩, 38) := ⟨⟨by decide +kernel, by decide +kernel⟩, List.mem_of_getElem? (i := 828) (by decide +kernel), List.mem_of_getElem? (i := 993) (by decide +kernel), List.mem_of_getElem? (i := 994) (by decide +kernel)⟩
theorem lw_p58 : lw_okq (⟨"ProofGateModel", "isGoal", "(III)Z"⟩, 38) := ⟨⟨by decide +kernel, by decide +kernel⟩, List.mem_of_getElem? (i := 828) (by decide +kernel), List.mem_of_getElem? (i := 1021) (by decide +kernel), List.mem_of_getElem? (i := 1022) (by decide +kernel)⟩
theorem lw_p59 : lw_okq (⟨"ProofGateModel", "sayer", "(II)I"⟩, 38) := ⟨⟨by decide +kernel, by decide +kernel⟩, List.mem_of_getElem? (i := 828) (by decide +kernel), List.mem_of_getElem? (i := 1025) (by decide +kernel), List.mem_of_getElem? (i := 1026) (by decide +kernel)⟩
theorem lw_p60 : lw_okq (⟨"ProofGateModel", "proof", "(II)I"⟩, 38) := ⟨⟨by decide +kernel, by decide +kernel⟩, List.mem_of_getElem? (i := 828) (by decide +kernel), List.mem_of_getElem? (i := 1032) (by decide +kernel), List.mem_of_getElem? (i := 1033) (by decide +kernel)⟩
theorem lw_p61 : lw_okq (⟨"ProofGateModel", "said", "()V"⟩, 38) := ⟨⟨by decide +kernel, by decide +kernel⟩, List.mem_of_getElem? (i := 828) (by decide +kernel), List.mem_of_getElem? (i := 1036) (by decide +kernel), List.mem_of_getElem? (i := 1037) (by decide +kernel)⟩
theorem lw_p62 : lw_okq (⟨"ProofGateModel", "holds", "(I)Z"⟩, 38) := ⟨⟨by decide +kernel, by decide +kernel⟩, List.mem_of_getElem? (i := 828) (by decide +kernel), List.mem_of_getElem? (i := 1040) (by decide +kernel), List.mem_of_getElem? (i := 1041) (by decide +kernel)⟩
theorem lw_p63 : lw_okq (⟨"ProofGateModel", "finds", "(IIII)Z"⟩, 38) := ⟨⟨by decide +kernel, by decide +kernel⟩, List.mem_of_getElem? (i := 828) (by decide +kernel), List.mem_of_getElem? (i := 1050) (by decide +kernel), List.mem_of_getElem? (i := 1051) (by decide +kernel)⟩
def lw_privs_4 : List (MethodName × Nat) := [(⟨"ProofGate$Credentials", "take", "(LProofGate$Credential;)I"⟩, 2), (⟨"java/util/ArrayList", "add", "(Ljava/lang/Object;[Ljava/lang/Object;I)V"⟩, 3), (⟨"java/util/ArrayList", "grow", "()[Ljava/lang/Object;"⟩, 3), (⟨"java/util/ArrayList", "grow", "(I)[Ljava/lang/Object;"⟩, 3), (⟨"ProofGate", "useUpDraft", "(III)I"⟩, 10), (⟨"ProofGate$AuditLog", "addGrant", "(IIII)V"⟩, 2), (⟨"ProofGate", "carryOut", "(IIII)I"⟩, 10), (⟨"ProofGateModel", "isFit", "(I)Z"⟩, 38), (⟨"ProofGateModel", "fails", "(I)I"⟩, 38), (⟨"ProofGateModel", "recorded", "()Z"⟩, 38), (⟨"ProofGateModel", "isGoal", "(III)Z"⟩, 38), (⟨"ProofGateModel", "sayer", "(II)I"⟩, 38), (⟨"ProofGateModel", "proof", "(II)I"⟩, 38), (⟨"ProofGateModel", "said", "()V"⟩, 38), (⟨"ProofGateModel", "holds", "(I)Z"⟩, 38), (⟨"ProofGateModel", "finds", "(IIII)Z"⟩, 38)]
theorem lw_r4 : ∀ q ∈ lw_privs_4, lw_okq q := List.forall_mem_cons.mpr ⟨lw_p48, List.forall_mem_cons.mpr ⟨lw_p49, List.forall_mem_cons.mpr ⟨lw_p50, List.forall_mem_cons.mpr ⟨lw_p51, List.forall_mem_cons.mpr ⟨lw_p52, List.forall_mem_cons.mpr ⟨lw_p53, List.forall_mem_cons.mpr ⟨lw_p54, List.forall_mem_cons.mpr ⟨lw_p55, List.forall_mem_cons.mpr ⟨lw_p56, List.forall_mem_cons.mpr ⟨lw_p57, List.forall_mem_cons.mpr ⟨lw_p58, List.forall_mem_cons.mpr ⟨lw_p59, List.forall_mem_cons.mpr ⟨lw_p60, List.forall_mem_cons.mpr ⟨lw_p61, List.forall_mem_cons.mpr ⟨lw_p62, List.forall_mem_cons.mpr ⟨lw_p63, fun _ h => absurd h List.not_mem_nil⟩⟩⟩⟩⟩⟩⟩⟩⟩⟩⟩⟩⟩⟩⟩⟩
theorem lw_p64 : lw_okq (⟨"ProofGateModel", "goesOn", "()Z"⟩, 38) := ⟨⟨by decide +kernel, by decide +kernel⟩, List.mem_of_getElem? (i := 828) (by decide +kernel), List.mem_of_getElem? (i := 1054) (by decide +kernel), List.mem_of_getElem? (i := 1055) (by decide +kernel)⟩
theorem lw_p65 : lw_okq (⟨"ProofGateModel", "newMay", "(III)Z"⟩, 38) := ⟨⟨by decide +kernel, by decide +kernel⟩, List.mem_of_getElem? (i := 828) (by decide +kernel), List.mem_of_getElem? (i := 1058) (by decide +kernel), List.mem_of_getElem? (i := 1059) (by decide +kernel)⟩
theorem lw_p66 : lw_okq (⟨"ProofGateModel", "had", "(I)Z"⟩, 38) := ⟨⟨by decide +kernel, by decide +kernel⟩, List.mem_of_getElem? (i := 828) (by decide +kernel), List.mem_of_getElem? (i := 1062) (by decide +kernel), List.mem_of_getElem? (i := 1063) (by decide +kernel)⟩
theorem lw_p67 : lw_okq (⟨"ProofGateModel", "newTrust", "(IIII)Z"⟩, 38) := ⟨⟨by decide +kernel, by decide +kernel⟩, List.mem_of_getElem? (i := 828) (by decide +kernel), List.mem_of_getElem? (i := 1066) (by decide +kernel), List.mem_of_getElem? (i := 1067) (by decide +kernel)⟩
theorem lw_p68 : lw_okq (⟨"ProofGateModel", "newVoice", "(II)Z"⟩, 38) := ⟨⟨by decide +kernel, by decide +kernel⟩, List.mem_of_getElem? (i := 828) (by decide +kernel), List.mem_of_getElem? (i := 1070) (by decide +kernel), List.mem_of_getElem? (i := 1071) (by decide +kernel)⟩
theorem lw_p69 : lw_okq (⟨"ProofGateModel", "needed", "(I)I"⟩, 38) := ⟨⟨by decide +kernel, by decide +kernel⟩, List.mem_of_getElem? (i := 828) (by decide +kernel), List.mem_of_getElem? (i := 1074) (by decide +kernel), List.mem_of_getElem? (i := 1075) (by decide +kernel)⟩
theorem lw_p70 : lw_okq (⟨"ProofGateModel", "note", "(I)V"⟩, 38) := ⟨⟨by decide +kernel, by decide +kernel⟩, List.mem_of_getElem? (i := 828) (by decide +kernel), List.mem_of_getElem? (i := 1078) (by decide +kernel), List.mem_of_getElem? (i := 1079) (by decide +kernel)⟩
theorem lw_p71 : lw_okq (⟨"ProofGateModel", "proves", "(IIII)Z"⟩, 38) := ⟨⟨by decide +kernel, by decide +kernel⟩, List.mem_of_getElem? (i := 828) (by decide +kernel), List.mem_of_getElem? (i := 1086) (by decide +kernel), List.mem_of_getElem? (i := 1087) (by decide +kernel)⟩
theorem lw_p72 : lw_okq (⟨"ProofGateModel", "proved", "(I)I"⟩, 38) := ⟨⟨by decide +kernel, by decide +kernel⟩, List.mem_of_getElem? (i := 828) (by decide +kernel), List.mem_of_getElem? (i := 1090) (by decide +kernel), List.mem_of_getElem? (i := 1091) (by decide +kernel)⟩
theorem lw_p73 : lw_okq (⟨"ProofGateModel", "spoken", "(I)I"⟩, 38) := ⟨⟨by decide +kernel, by decide +kernel⟩, List.mem_of_getElem? (i := 828) (by decide +kernel), List.mem_of_getElem? (i := 1094) (by decide +kernel), List.mem_of_getElem? (i := 1095) (by decide +kernel)⟩
theorem lw_p74 : lw_okq (⟨"ProofGateModel", "stepFact", "(II)I"⟩, 38) := ⟨⟨by decide +kernel, by decide +kernel⟩, List.mem_of_getElem? (i := 828) (by decide +kernel), List.mem_of_getElem? (i := 1101) (by decide +kernel), List.mem_of_getElem? (i := 1102) (by decide +kernel)⟩
theorem lw_p75 : lw_okq (⟨"ProofGateModel", "done", "(IIII)I"⟩, 38) := ⟨⟨by decide +kernel, by decide +kernel⟩, List.mem_of_getElem? (i := 828) (by decide +kernel), List.mem_of_getElem? (i := 1112) (by decide +kernel), List.mem_of_getElem? (i := 1113) (by decide +kernel)⟩
def lw_privs_5 : List (MethodName × Nat) := [(⟨"ProofGateModel", "goesOn", "()Z"⟩, 38), (⟨"ProofGateModel", "newMay", "(III)Z"⟩, 38), (⟨"ProofGateModel", "had", "(I)Z"⟩, 38), (⟨"ProofGateModel", "newTrust", "(IIII)Z"⟩, 38), (⟨"ProofGateModel", "newVoice", "(II)Z"⟩, 38), (⟨"ProofGateModel", "needed", "(I)I"⟩, 38), (⟨"ProofGateModel", "note", "(I)V"⟩, 38), (⟨"ProofGateModel", "proves", "(IIII)Z"⟩, 38), (⟨"ProofGateModel", "proved", "(I)I"⟩, 38), (⟨"ProofGateModel", "spoken", "(I)I"⟩, 38), (⟨"ProofGateModel", "stepFact", "(II)I"⟩, 38), (⟨"ProofGateModel", "done", "(IIII)I"⟩, 38)]
theorem lw_r5 : ∀ q ∈ lw_privs_5, lw_okq q := List.forall_mem_cons.mpr ⟨lw_p64, List.forall_mem_cons.mpr ⟨lw_p65, List.forall_mem_cons.mpr ⟨lw_p66, List.forall_mem_cons.mpr ⟨lw_p67, List.forall_mem_cons.mpr ⟨lw_p68, List.forall_mem_cons.mpr ⟨lw_p69, List.forall_mem_cons.mpr ⟨lw_p70, List.forall_mem_cons.mpr ⟨lw_p71, List.forall_mem_cons.mpr ⟨lw_p72, List.forall_mem_cons.mpr ⟨lw_p73, List.forall_mem_cons.mpr ⟨lw_p74, List.forall_mem_cons.mpr ⟨lw_p75, fun _ h => absurd h List.not_mem_nil⟩⟩⟩⟩⟩⟩⟩⟩⟩⟩⟩⟩
def lw_privs : List (MethodName × Nat) := lw_privs_1 ++ (lw_privs_2 ++ (lw_privs_3 ++ (lw_privs_4 ++ (lw_privs_5))))
def lw_tbl : List Cond := k2_sels lw_privs ++ tables_1
theorem lw_privs_ok : ∀ q ∈ lw_privs, lw_okq q := by
  show ∀ q ∈ lw_privs_1 ++ (lw_privs_2 ++ (lw_privs_3 ++ (lw_privs_4 ++ (lw_privs_5)))), lw_okq q
  exact List.forall_mem_append.mpr ⟨lw_r1, List.forall_mem_append.mpr ⟨lw_r2, List.forall_mem_append.mpr ⟨lw_r3, List.forall_mem_append.mpr ⟨lw_r4, lw_r5⟩⟩⟩⟩
end
section
/-! names: by program out of the Statement and javap; the tables' words: TB (good), NB (across a nest, casts) -/
def TB : List Cond := lw_tbl.filter goodWord
theorem TB_good : ∀ w ∈ TB, goodWord w = true := fun w h => (List.mem_filter.mp h).2
def nestWord : Cond → Bool
  | .fieldLinkNest .. => true
  | .methodLinkNest .. => true
  | .castable .. => true
  | _ => false
def NB : List Cond := lw_tbl.filter nestWord
theorem NB_warm (w : Cond) (hw : w ∈ NB) {s U : State} (hW : s.WarmedH U.vm) (h : va_Nw w s) : va_Nw w U := by
  have hn := (List.mem_filter.mp hw).2
  cases w <;> first | exact va_Nw.warmF hW h | exact va_Nw.warmM hW h | exact va_Nw.warmC hW h | (exact absurd hn (by simp [nestWord]))
theorem tb1 {w : Cond} (i : Nat) (h : tables_1_1[i]? = some w) (g : goodWord w = true) : w ∈ TB := List.mem_filter.mpr ⟨List.mem_append_right _ (show w ∈ tables_1 from (List.mem_append_left _ (List.mem_of_getElem? h))), g⟩
theorem nb1 {w : Cond} (i : Nat) (h : tables_1_1[i]? = some w) (g : nestWord w = true) : w ∈ NB := List.mem_filter.mpr ⟨List.mem_append_right _ (show w ∈ tables_1 from (List.mem_append_left _ (List.mem_of_getElem? h))), g⟩
theorem tb2 {w : Cond} (i : Nat) (h : tables_1_2[i]? = some w) (g : goodWord w = true) : w ∈ TB := List.mem_filter.mpr ⟨List.mem_append_right _ (show w ∈ tables_1 from (List.mem_append_right _ (List.mem_append_left _ (List.mem_of_getElem? h)))), g⟩
theorem nb2 {w : Cond} (i : Nat) (h : tables_1_2[i]? = some w) (g : nestWord w = true) : w ∈ NB := List.mem_filter.mpr ⟨List.mem_append_right _ (show w ∈ tables_1 from (List.mem_append_right _ (List.mem_append_left _ (List.mem_of_getElem? h)))), g⟩
theorem tb3 {w : Cond} (i : Nat) (h : tables_1_3[i]? = some w) (g : goodWord w = true) : w ∈ TB := List.mem_filter.mpr ⟨List.mem_append_right _ (show w ∈ tables_1 from (List.mem_append_right _ (List.mem_append_right _ (List.mem_append_left _ (List.mem_of_getElem? h))))), g⟩
theorem nb3 {w : Cond} (i : Nat) (h : tables_1_3[i]? = some w) (g : nestWord w = true) : w ∈ NB := List.mem_filter.mpr ⟨List.mem_append_right _ (show w ∈ tables_1 from (List.mem_append_right _ (List.mem_append_right _ (List.mem_append_left _ (List.mem_of_getElem? h))))), g⟩
theorem tb4 {w : Cond} (i : Nat) (h : tables_1_4[i]? = some w) (g : goodWord w = true) : w ∈ TB := List.mem_filter.mpr ⟨List.mem_append_right _ (show w ∈ tables_1 from (List.mem_append_right _ (List.mem_append_right _ (List.mem_append_right _ (List.mem_append_left _ (List.mem_of_getElem? h)))))), g⟩
theorem nb4 {w : Cond} (i : Nat) (h : tables_1_4[i]? = some w) (g : nestWord w = true) : w ∈ NB := List.mem_filter.mpr ⟨List.mem_append_right _ (show w ∈ tables_1 from (List.mem_append_right _ (List.mem_append_right _ (List.mem_append_right _ (List.mem_append_left _ (List.mem_of_getElem? h)))))), g⟩
theorem tb5 {w : Cond} (i : Nat) (h : tables_1_5[i]? = some w) (g : goodWord w = true) : w ∈ TB := List.mem_filter.mpr ⟨List.mem_append_right _ (show w ∈ tables_1 from (List.mem_append_right _ (List.mem_append_right _ (List.mem_append_right _ (List.mem_append_right _ (List.mem_of_getElem? h)))))), g⟩
theorem nb5 {w : Cond} (i : Nat) (h : tables_1_5[i]? = some w) (g : nestWord w = true) : w ∈ NB := List.mem_filter.mpr ⟨List.mem_append_right _ (show w ∈ tables_1 from (List.mem_append_right _ (List.mem_append_right _ (List.mem_append_right _ (List.mem_append_right _ (List.mem_of_getElem? h)))))), g⟩
theorem sp1 {q : MethodName × Nat} (i : Nat) (h : lw_privs_1[i]? = some q) : Cond.selects q.1.cls q.1 q.1 ∈ TB := List.mem_filter.mpr ⟨List.mem_append_left _ (List.mem_map.mpr ⟨q, show q ∈ lw_privs from (List.mem_append_left _ (List.mem_of_getElem? h)), rfl⟩), rfl⟩
theorem sp2 {q : MethodName × Nat} (i : Nat) (h : lw_privs_2[i]? = some q) : Cond.selects q.1.cls q.1 q.1 ∈ TB := List.mem_filter.mpr ⟨List.mem_append_left _ (List.mem_map.mpr ⟨q, show q ∈ lw_privs from (List.mem_append_right _ (List.mem_append_left _ (List.mem_of_getElem? h))), rfl⟩), rfl⟩
theorem sp3 {q : MethodName × Nat} (i : Nat) (h : lw_privs_3[i]? = some q) : Cond.selects q.1.cls q.1 q.1 ∈ TB := List.mem_filter.mpr ⟨List.mem_append_left _ (List.mem_map.mpr ⟨q, show q ∈ lw_privs from (List.mem_append_right _ (List.mem_append_right _ (List.mem_append_left _ (List.mem_of_getElem? h)))), rfl⟩), rfl⟩
theorem sp4 {q : MethodName × Nat} (i : Nat) (h : lw_privs_4[i]? = some q) : Cond.selects q.1.cls q.1 q.1 ∈ TB := List.mem_filter.mpr ⟨List.mem_append_left _ (List.mem_map.mpr ⟨q, show q ∈ lw_privs from (List.mem_append_right _ (List.mem_append_right _ (List.mem_append_right _ (List.mem_append_left _ (List.mem_of_getElem? h))))), rfl⟩), rfl⟩
theorem sp5 {q : MethodName × Nat} (i : Nat) (h : lw_privs_5[i]? = some q) : Cond.selects q.1.cls q.1 q.1 ∈ TB := List.mem_filter.mpr ⟨List.mem_append_left _ (List.mem_map.mpr ⟨q, show q ∈ lw_privs from (List.mem_append_right _ (List.mem_append_right _ (List.mem_append_right _ (List.mem_append_right _ (List.mem_of_getElem? h))))), rfl⟩), rfl⟩
abbrev b_Ga_init : ByteArray := prog_1_method_1_code
def y_Ga_init : MethodName := ⟨"ProofGate", "<init>", "(I)V"⟩
abbrev b_Jo_init : ByteArray := object_method_1_code
def y_Jo_init : MethodName := ⟨"java/lang/Object", "<init>", "()V"⟩
abbrev b_Cs_init : ByteArray := prog_5_method_1_code
def y_Cs_init : MethodName := ⟨"ProofGate$Credentials", "<init>", "()V"⟩
abbrev b_AL_init : ByteArray := prog_26_method_2_code
def y_AL_init : MethodName := ⟨"java/util/ArrayList", "<init>", "()V"⟩
abbrev b_Ab_init : ByteArray := prog_25_method_1_code
def y_Ab_init : MethodName := ⟨"java/util/AbstractList", "<init>", "()V"⟩
abbrev b_Ac_init : ByteArray := prog_24_method_1_code
def y_Ac_init : MethodName := ⟨"java/util/AbstractCollection", "<init>", "()V"⟩
abbrev b_Pf_init : ByteArray := prog_8_method_1_code
def y_Pf_init : MethodName := ⟨"ProofGate$Proof", "<init>", "()V"⟩
abbrev b_Pv_init : ByteArray := prog_9_method_1_code
def y_Pv_init : MethodName := ⟨"ProofGate$Prover", "<init>", "(LProofGate$Credentials;)V"⟩
abbrev b_Ck_init : ByteArray := prog_3_method_1_code
def y_Ck_init : MethodName := ⟨"ProofGate$Checker", "<init>", "(LProofGate$Credentials;)V"⟩
abbrev b_Fa_init : ByteArray := prog_6_method_1_code
def y_Fa_init : MethodName := ⟨"ProofGate$Fact", "<init>", "()V"⟩
abbrev b_Lg_init : ByteArray := prog_2_method_1_code
def y_Lg_init : MethodName := ⟨"ProofGate$AuditLog", "<init>", "()V"⟩
abbrev b_Fu_init : ByteArray := prog_7_method_1_code
def y_Fu_init : MethodName := ⟨"ProofGate$Fuse", "<init>", "()V"⟩
abbrev b_Ar_fill : ByteArray := prog_27_method_103_code
def y_Ar_fill : MethodName := ⟨"java/util/Arrays", "fill", "([II)V"⟩
abbrev b_Ga_seal : ByteArray := prog_1_method_2_code
def y_Ga_seal : MethodName := ⟨"ProofGate", "seal", "(IIIIIIII)I"⟩
abbrev b_Cr_init : ByteArray := prog_4_method_1_code
def y_Cr_init : MethodName := ⟨"ProofGate$Credential", "<init>", "(II[III)V"⟩
abbrev b_Cr_isKind : ByteArray := prog_4_method_2_code
def y_Cr_isKind : MethodName := ⟨"ProofGate$Credential", "isKind", "(I)Z"⟩
abbrev b_Cr_limit : ByteArray := prog_4_method_3_code
def y_Cr_limit : MethodName := ⟨"ProofGate$Credential", "limit", "(II)I"⟩
abbrev b_Ga_sealOf : ByteArray := prog_1_method_20_code
def y_Ga_sealOf : MethodName := ⟨"ProofGate", "sealOf", "(LProofGate$Credential;)I"⟩
abbrev b_Cr_mark : ByteArray := prog_4_method_6_code
def y_Cr_mark : MethodName := ⟨"ProofGate$Credential", "mark", "()I"⟩
abbrev b_Cr_mix : ByteArray := prog_4_method_7_code
def y_Cr_mix : MethodName := ⟨"ProofGate$Credential", "mix", "(II)I"⟩
abbrev b_Ga_set : ByteArray := prog_1_method_4_code
def y_Ga_set : MethodName := ⟨"ProofGate", "set", "(IIII)V"⟩
abbrev b_Ga_pass : ByteArray := prog_1_method_6_code
def y_Ga_pass : MethodName := ⟨"ProofGate", "pass", "(I)I"⟩
abbrev b_Cs_letTimeGoOn : ByteArray := prog_5_method_4_code
def y_Cs_letTimeGoOn : MethodName := ⟨"ProofGate$Credentials", "letTimeGoOn", "(I)I"⟩
abbrev b_Ga_step : ByteArray := prog_1_method_7_code
def y_Ga_step : MethodName := ⟨"ProofGate", "step", "(III)I"⟩
abbrev b_Pf_append : ByteArray := prog_8_method_7_code
def y_Pf_append : MethodName := ⟨"ProofGate$Proof", "append", "(III)I"⟩
abbrev b_Ga_clear : ByteArray := prog_1_method_8_code
def y_Ga_clear : MethodName := ⟨"ProofGate", "clear", "()I"⟩
abbrev b_Pf_makeEmpty : ByteArray := prog_8_method_8_code
def y_Pf_makeEmpty : MethodName := ⟨"ProofGate$Proof", "makeEmpty", "()I"⟩
abbrev b_Ga_steps : ByteArray := prog_1_method_9_code
def y_Ga_steps : MethodName := ⟨"ProofGate", "steps", "()I"⟩
abbrev b_Pf_length : ByteArray := prog_8_method_2_code
def y_Pf_length : MethodName := ⟨"ProofGate$Proof", "length", "()I"⟩
abbrev b_Ga_stepAt : ByteArray := prog_1_method_10_code
def y_Ga_stepAt : MethodName := ⟨"ProofGate", "stepAt", "(II)I"⟩
abbrev b_Pf_hasStep : ByteArray := prog_8_method_3_code
def y_Pf_hasStep : MethodName := ⟨"ProofGate$Proof", "hasStep", "(I)Z"⟩
abbrev b_Pf_ruleAt : ByteArray := prog_8_method_4_code
def y_Pf_ruleAt : MethodName := ⟨"ProofGate$Proof", "ruleAt", "(I)I"⟩
abbrev b_Pf_xAt : ByteArray := prog_8_method_5_code
def y_Pf_xAt : MethodName := ⟨"ProofGate$Proof", "xAt", "(I)I"⟩
abbrev b_Pf_yAt : ByteArray := prog_8_method_6_code
def y_Pf_yAt : MethodName := ⟨"ProofGate$Proof", "yAt", "(I)I"⟩
abbrev b_Ga_prove : ByteArray := prog_1_method_11_code
def y_Ga_prove : MethodName := ⟨"ProofGate", "prove", "(III)I"⟩
abbrev b_Ga_isNamed : ByteArray := prog_1_method_26_code
def y_Ga_isNamed : MethodName := ⟨"ProofGate", "isNamed", "(III)Z"⟩
abbrev b_Ga_isPrincipal : ByteArray := prog_1_method_27_code
def y_Ga_isPrincipal : MethodName := ⟨"ProofGate", "isPrincipal", "(I)Z"⟩
abbrev b_Ga_isObject : ByteArray := prog_1_method_28_code
def y_Ga_isObject : MethodName := ⟨"ProofGate", "isObject", "(I)Z"⟩
abbrev b_Ga_isOpenTo : ByteArray := prog_1_method_25_code
def y_Ga_isOpenTo : MethodName := ⟨"ProofGate", "isOpenTo", "(II)Z"⟩
abbrev b_Ga_sayerOfGoal : ByteArray := prog_1_method_24_code
def y_Ga_sayerOfGoal : MethodName := ⟨"ProofGate", "sayerOfGoal", "(II)I"⟩
abbrev b_Pv_writeProof : ByteArray := prog_9_method_3_code
def y_Pv_writeProof : MethodName := ⟨"ProofGate$Prover", "writeProof", "(IIII)I"⟩
abbrev b_Pv_may : ByteArray := prog_9_method_22_code
def y_Pv_may : MethodName := ⟨"ProofGate$Prover", "may", "(III)I"⟩
abbrev b_Pv_finds : ByteArray := prog_9_method_4_code
def y_Pv_finds : MethodName := ⟨"ProofGate$Prover", "finds", "(II)Z"⟩
abbrev b_Pv_findWhatIsSaid : ByteArray := prog_9_method_6_code
def y_Pv_findWhatIsSaid : MethodName := ⟨"ProofGate$Prover", "findWhatIsSaid", "(I)V"⟩
abbrev b_Cs_count : ByteArray := prog_5_method_2_code
def y_Cs_count : MethodName := ⟨"ProofGate$Credentials", "count", "()I"⟩
abbrev b_AL_size : ByteArray := prog_26_method_8_code
def y_AL_size : MethodName := ⟨"java/util/ArrayList", "size", "()I"⟩
abbrev b_Cs_findValid : ByteArray := prog_5_method_6_code
def y_Cs_findValid : MethodName := ⟨"ProofGate$Credentials", "findValid", "(I)LProofGate$Credential;"⟩
abbrev b_Cs_find : ByteArray := prog_5_method_5_code
def y_Cs_find : MethodName := ⟨"ProofGate$Credentials", "find", "(I)LProofGate$Credential;"⟩
abbrev b_AL_get : ByteArray := prog_26_method_20_code
def y_AL_get : MethodName := ⟨"java/util/ArrayList", "get", "(I)Ljava/lang/Object;"⟩
abbrev b_Ob_checkIndex : ByteArray := prog_31_method_17_code
def y_Ob_checkIndex : MethodName := ⟨"java/util/Objects", "checkIndex", "(II)I"⟩
abbrev b_Pr_checkIndex : ByteArray := prog_35_method_11_code
def y_Pr_checkIndex : MethodName := ⟨"jdk/internal/util/Preconditions", "checkIndex", "(IILjava/util/function/BiFunction;)I"⟩
abbrev b_AL_elementData : ByteArray := prog_26_method_18_code
def y_AL_elementData : MethodName := ⟨"java/util/ArrayList", "elementData", "(I)Ljava/lang/Object;"⟩
abbrev b_Cr_isValidAt : ByteArray := prog_4_method_5_code
def y_Cr_isValidAt : MethodName := ⟨"ProofGate$Credential", "isValidAt", "(I)Z"⟩
abbrev b_Pv_factSaidBy : ByteArray := prog_9_method_7_code
def y_Pv_factSaidBy : MethodName := ⟨"ProofGate$Prover", "factSaidBy", "(LProofGate$Credential;I)I"⟩
abbrev b_Pv_speaks : ByteArray := prog_9_method_21_code
def y_Pv_speaks : MethodName := ⟨"ProofGate$Prover", "speaks", "(II)I"⟩
abbrev b_Pv_trusts : ByteArray := prog_9_method_23_code
def y_Pv_trusts : MethodName := ⟨"ProofGate$Prover", "trusts", "(IIII)I"⟩
abbrev b_Pv_reach : ByteArray := prog_9_method_18_code
def y_Pv_reach : MethodName := ⟨"ProofGate$Prover", "reach", "(IIII)V"⟩
abbrev b_Pv_findWhatFollows : ByteArray := prog_9_method_5_code
def y_Pv_findWhatFollows : MethodName := ⟨"ProofGate$Prover", "findWhatFollows", "()V"⟩
abbrev b_Pv_findMayByVoice : ByteArray := prog_9_method_8_code
def y_Pv_findMayByVoice : MethodName := ⟨"ProofGate$Prover", "findMayByVoice", "()V"⟩
abbrev b_Pv_isKnown : ByteArray := prog_9_method_19_code
def y_Pv_isKnown : MethodName := ⟨"ProofGate$Prover", "isKnown", "(I)Z"⟩
abbrev b_Pv_handOnMay : ByteArray := prog_9_method_10_code
def y_Pv_handOnMay : MethodName := ⟨"ProofGate$Prover", "handOnMay", "(IIIII)V"⟩
abbrev b_Pv_findMayByTrust : ByteArray := prog_9_method_9_code
def y_Pv_findMayByTrust : MethodName := ⟨"ProofGate$Prover", "findMayByTrust", "()V"⟩
abbrev b_Pv_findTrustByTrust : ByteArray := prog_9_method_11_code
def y_Pv_findTrustByTrust : MethodName := ⟨"ProofGate$Prover", "findTrustByTrust", "()V"⟩
abbrev b_Pv_handOnTrust : ByteArray := prog_9_method_13_code
def y_Pv_handOnTrust : MethodName := ⟨"ProofGate$Prover", "handOnTrust", "(IIIIII)V"⟩
abbrev b_Ma_min : ByteArray := prog_18_method_69_code
def y_Ma_min : MethodName := ⟨"java/lang/Math", "min", "(II)I"⟩
abbrev b_Pv_findTrustByVoice : ByteArray := prog_9_method_12_code
def y_Pv_findTrustByVoice : MethodName := ⟨"ProofGate$Prover", "findTrustByVoice", "()V"⟩
abbrev b_Pv_findVoiceByVoice : ByteArray := prog_9_method_14_code
def y_Pv_findVoiceByVoice : MethodName := ⟨"ProofGate$Prover", "findVoiceByVoice", "()V"⟩
abbrev b_Pv_handOnVoice : ByteArray := prog_9_method_15_code
def y_Pv_handOnVoice : MethodName := ⟨"ProofGate$Prover", "handOnVoice", "(II)V"⟩
abbrev b_Pv_findImplied : ByteArray := prog_9_method_16_code
def y_Pv_findImplied : MethodName := ⟨"ProofGate$Prover", "findImplied", "()V"⟩
abbrev b_Pv_applyImply : ByteArray := prog_9_method_17_code
def y_Pv_applyImply : MethodName := ⟨"ProofGate$Prover", "applyImply", "(IIII)V"⟩
abbrev b_Pv_writesStep : ByteArray := prog_9_method_20_code
def y_Pv_writesStep : MethodName := ⟨"ProofGate$Prover", "writesStep", "(II)Z"⟩
abbrev b_Pv_written : ByteArray := prog_9_method_2_code
def y_Pv_written : MethodName := ⟨"ProofGate$Prover", "written", "()LProofGate$Proof;"⟩
abbrev b_Pf_become : ByteArray := prog_8_method_9_code
def y_Pf_become : MethodName := ⟨"ProofGate$Proof", "become", "(LProofGate$Proof;)V"⟩
abbrev b_Ga_check : ByteArray := prog_1_method_12_code
def y_Ga_check : MethodName := ⟨"ProofGate", "check", "(III)Z"⟩
abbrev b_Ck_accepts : ByteArray := prog_3_method_2_code
def y_Ck_accepts : MethodName := ⟨"ProofGate$Checker", "accepts", "(LProofGate$Proof;IIII)Z"⟩
abbrev b_Ck_follows : ByteArray := prog_3_method_3_code
def y_Ck_follows : MethodName := ⟨"ProofGate$Checker", "follows", "(IIII)Z"⟩
abbrev b_Ck_isSaid : ByteArray := prog_3_method_4_code
def y_Ck_isSaid : MethodName := ⟨"ProofGate$Checker", "isSaid", "(LProofGate$Credential;LProofGate$Fact;)Z"⟩
abbrev b_Fa_becomeSaidBy : ByteArray := prog_6_method_2_code
def y_Fa_becomeSaidBy : MethodName := ⟨"ProofGate$Fact", "becomeSaidBy", "(LProofGate$Credential;)V"⟩
abbrev b_Ck_isImplied : ByteArray := prog_3_method_5_code
def y_Ck_isImplied : MethodName := ⟨"ProofGate$Checker", "isImplied", "(LProofGate$Credential;LProofGate$Fact;LProofGate$Fact;)Z"⟩
abbrev b_Fa_become : ByteArray := prog_6_method_3_code
def y_Fa_become : MethodName := ⟨"ProofGate$Fact", "become", "(LProofGate$Fact;)V"⟩
abbrev b_Ck_isJoined : ByteArray := prog_3_method_6_code
def y_Ck_isJoined : MethodName := ⟨"ProofGate$Checker", "isJoined", "(ILProofGate$Fact;LProofGate$Fact;LProofGate$Fact;)Z"⟩
abbrev b_Ck_isHandedOn : ByteArray := prog_3_method_8_code
def y_Ck_isHandedOn : MethodName := ⟨"ProofGate$Checker", "isHandedOn", "(LProofGate$Fact;LProofGate$Fact;LProofGate$Fact;)Z"⟩
abbrev b_Fa_isOfSameThing : ByteArray := prog_6_method_5_code
def y_Fa_isOfSameThing : MethodName := ⟨"ProofGate$Fact", "isOfSameThing", "(LProofGate$Fact;)Z"⟩
abbrev b_Ck_isTrustedDeeper : ByteArray := prog_3_method_7_code
def y_Ck_isTrustedDeeper : MethodName := ⟨"ProofGate$Checker", "isTrustedDeeper", "(LProofGate$Fact;LProofGate$Fact;LProofGate$Fact;)Z"⟩
abbrev b_Fa_isMay : ByteArray := prog_6_method_4_code
def y_Fa_isMay : MethodName := ⟨"ProofGate$Fact", "isMay", "(IIII)Z"⟩
abbrev b_Ga_fuse : ByteArray := prog_1_method_14_code
def y_Ga_fuse : MethodName := ⟨"ProofGate", "fuse", "(I)Z"⟩
abbrev b_Fu_light : ByteArray := prog_7_method_2_code
def y_Fu_light : MethodName := ⟨"ProofGate$Fuse", "light", "(I)V"⟩
abbrev b_Ga_owner : ByteArray := prog_1_method_15_code
def y_Ga_owner : MethodName := ⟨"ProofGate", "owner", "(I)I"⟩
abbrev b_Ga_credentials : ByteArray := prog_1_method_16_code
def y_Ga_credentials : MethodName := ⟨"ProofGate", "credentials", "()I"⟩
abbrev b_Ga_valid : ByteArray := prog_1_method_17_code
def y_Ga_valid : MethodName := ⟨"ProofGate", "valid", "(I)Z"⟩
abbrev b_Ga_grants : ByteArray := prog_1_method_18_code
def y_Ga_grants : MethodName := ⟨"ProofGate", "grants", "()I"⟩
abbrev b_Lg_count : ByteArray := prog_2_method_2_code
def y_Lg_count : MethodName := ⟨"ProofGate$AuditLog", "count", "()I"⟩
abbrev b_Ga_chain : ByteArray := prog_1_method_19_code
def y_Ga_chain : MethodName := ⟨"ProofGate", "chain", "()I"⟩
abbrev b_Lg_link : ByteArray := prog_2_method_3_code
def y_Lg_link : MethodName := ⟨"ProofGate$AuditLog", "link", "()I"⟩
abbrev b_Lw_cell : ByteArray := method_2_code
def y_Lw_cell : MethodName := ⟨"ProofGateLaw", "cell", "([II)I"⟩
abbrev b_Lw_submit : ByteArray := method_3_code
def y_Lw_submit : MethodName := ⟨"ProofGateLaw", "submit", "(LProofGate;IIIII[J)I"⟩
abbrev b_Ga_submit : ByteArray := prog_1_method_3_code
def y_Ga_submit : MethodName := ⟨"ProofGate", "submit", "(IIIII)I"⟩
abbrev b_Cr_isWellFormed : ByteArray := prog_4_method_4_code
def y_Cr_isWellFormed : MethodName := ⟨"ProofGate$Credential", "isWellFormed", "()Z"⟩
abbrev b_Ga_writeRecord : ByteArray := prog_1_method_21_code
def y_Ga_writeRecord : MethodName := ⟨"ProofGate", "writeRecord", "()V"⟩
abbrev b_Fu_burnsThrough : ByteArray := prog_7_method_3_code
def y_Fu_burnsThrough : MethodName := ⟨"ProofGate$Fuse", "burnsThrough", "()Z"⟩
abbrev b_Cs_take : ByteArray := prog_5_method_3_code
def y_Cs_take : MethodName := ⟨"ProofGate$Credentials", "take", "(LProofGate$Credential;)I"⟩
abbrev b_AL_add : ByteArray := prog_26_method_25_code
def y_AL_add : MethodName := ⟨"java/util/ArrayList", "add", "(Ljava/lang/Object;)Z"⟩
abbrev b_AL_add2 : ByteArray := prog_26_method_24_code
def y_AL_add2 : MethodName := ⟨"java/util/ArrayList", "add", "(Ljava/lang/Object;[Ljava/lang/Object;I)V"⟩
abbrev b_AL_grow : ByteArray := prog_26_method_7_code
def y_AL_grow : MethodName := ⟨"java/util/ArrayList", "grow", "()[Ljava/lang/Object;"⟩
abbrev b_AL_grow2 : ByteArray := prog_26_method_6_code
def y_AL_grow2 : MethodName := ⟨"java/util/ArrayList", "grow", "(I)[Ljava/lang/Object;"⟩
abbrev b_As_newLength : ByteArray := prog_34_method_27_code
def y_As_newLength : MethodName := ⟨"jdk/internal/util/ArraysSupport", "newLength", "(III)I"⟩
abbrev b_Ma_max : ByteArray := prog_18_method_65_code
def y_Ma_max : MethodName := ⟨"java/lang/Math", "max", "(II)I"⟩
abbrev b_As_hugeLength : ByteArray := prog_34_method_28_code
def y_As_hugeLength : MethodName := ⟨"jdk/internal/util/ArraysSupport", "hugeLength", "(II)I"⟩
abbrev b_Ar_copyOf : ByteArray := prog_27_method_119_code
def y_Ar_copyOf : MethodName := ⟨"java/util/Arrays", "copyOf", "([Ljava/lang/Object;I)[Ljava/lang/Object;"⟩
abbrev b_Ar_copyOf2 : ByteArray := prog_27_method_120_code
def y_Ar_copyOf2 : MethodName := ⟨"java/util/Arrays", "copyOf", "([Ljava/lang/Object;ILjava/lang/Class;)[Ljava/lang/Object;"⟩
abbrev b_Lw_revoke : ByteArray := method_4_code
def y_Lw_revoke : MethodName := ⟨"ProofGateLaw", "revoke", "(LProofGate;II[J)I"⟩
abbrev b_Ga_revoke : ByteArray := prog_1_method_5_code
def y_Ga_revoke : MethodName := ⟨"ProofGate", "revoke", "(II)Z"⟩
abbrev b_Lw_request : ByteArray := method_5_code
def y_Lw_request : MethodName := ⟨"ProofGateLaw", "request", "(LProofGate;IIIIZ[J)I"⟩
abbrev b_Ga_request : ByteArray := prog_1_method_13_code
def y_Ga_request : MethodName := ⟨"ProofGate", "request", "(IIIIZ)I"⟩
abbrev b_Ga_useUpDraft : ByteArray := prog_1_method_22_code
def y_Ga_useUpDraft : MethodName := ⟨"ProofGate", "useUpDraft", "(III)I"⟩
abbrev b_Lg_addGrant : ByteArray := prog_2_method_4_code
def y_Lg_addGrant : MethodName := ⟨"ProofGate$AuditLog", "addGrant", "(IIII)V"⟩
abbrev b_Ga_carryOut : ByteArray := prog_1_method_23_code
def y_Ga_carryOut : MethodName := ⟨"ProofGate", "carryOut", "(IIII)I"⟩
abbrev b_Mo_init : ByteArray := prog_11_method_1_code
def y_Mo_init : MethodName := ⟨"ProofGateModel", "<init>", "(I)V"⟩
abbrev b_Mo_thrown : ByteArray := prog_11_method_2_code
def y_Mo_thrown : MethodName := ⟨"ProofGateModel", "thrown", "()I"⟩
abbrev b_Mo_fuse : ByteArray := prog_11_method_6_code
def y_Mo_fuse : MethodName := ⟨"ProofGateModel", "fuse", "(I)Z"⟩
abbrev b_Mo_in : ByteArray := prog_11_method_4_code
def y_Mo_in : MethodName := ⟨"ProofGateModel", "in", "(III)Z"⟩
abbrev b_Mo_seal : ByteArray := prog_11_method_8_code
def y_Mo_seal : MethodName := ⟨"ProofGateModel", "seal", "(IIIIIIII)I"⟩
abbrev b_Mo_mix : ByteArray := prog_11_method_7_code
def y_Mo_mix : MethodName := ⟨"ProofGateModel", "mix", "(II)I"⟩
abbrev b_Mo_set : ByteArray := prog_11_method_9_code
def y_Mo_set : MethodName := ⟨"ProofGateModel", "set", "(IIII)V"⟩
abbrev b_Mo_submit : ByteArray := prog_11_method_13_code
def y_Mo_submit : MethodName := ⟨"ProofGateModel", "submit", "(IIIII)I"⟩
abbrev b_Mo_isPerson : ByteArray := prog_11_method_10_code
def y_Mo_isPerson : MethodName := ⟨"ProofGateModel", "isPerson", "(I)Z"⟩
abbrev b_Mo_isFit : ByteArray := prog_11_method_12_code
def y_Mo_isFit : MethodName := ⟨"ProofGateModel", "isFit", "(I)Z"⟩
abbrev b_Mo_isRight : ByteArray := prog_11_method_11_code
def y_Mo_isRight : MethodName := ⟨"ProofGateModel", "isRight", "(I)Z"⟩
abbrev b_Mo_fails : ByteArray := prog_11_method_3_code
def y_Mo_fails : MethodName := ⟨"ProofGateModel", "fails", "(I)I"⟩
abbrev b_Mo_recorded : ByteArray := prog_11_method_5_code
def y_Mo_recorded : MethodName := ⟨"ProofGateModel", "recorded", "()Z"⟩
abbrev b_Mo_revoke : ByteArray := prog_11_method_14_code
def y_Mo_revoke : MethodName := ⟨"ProofGateModel", "revoke", "(II)Z"⟩
abbrev b_Mo_step : ByteArray := prog_11_method_35_code
def y_Mo_step : MethodName := ⟨"ProofGateModel", "step", "(III)I"⟩
abbrev b_Mo_clear : ByteArray := prog_11_method_36_code
def y_Mo_clear : MethodName := ⟨"ProofGateModel", "clear", "()I"⟩
abbrev b_Mo_steps : ByteArray := prog_11_method_37_code
def y_Mo_steps : MethodName := ⟨"ProofGateModel", "steps", "()I"⟩
abbrev b_Mo_stepAt : ByteArray := prog_11_method_38_code
def y_Mo_stepAt : MethodName := ⟨"ProofGateModel", "stepAt", "(II)I"⟩
abbrev b_Mo_prove : ByteArray := prog_11_method_41_code
def y_Mo_prove : MethodName := ⟨"ProofGateModel", "prove", "(III)I"⟩
abbrev b_Mo_isGoal : ByteArray := prog_11_method_39_code
def y_Mo_isGoal : MethodName := ⟨"ProofGateModel", "isGoal", "(III)Z"⟩
abbrev b_Mo_sayer : ByteArray := prog_11_method_40_code
def y_Mo_sayer : MethodName := ⟨"ProofGateModel", "sayer", "(II)I"⟩
abbrev b_Mo_may : ByteArray := prog_11_method_16_code
def y_Mo_may : MethodName := ⟨"ProofGateModel", "may", "(III)I"⟩
abbrev b_Mo_proof : ByteArray := prog_11_method_26_code
def y_Mo_proof : MethodName := ⟨"ProofGateModel", "proof", "(II)I"⟩
abbrev b_Mo_said : ByteArray := prog_11_method_21_code
def y_Mo_said : MethodName := ⟨"ProofGateModel", "said", "()V"⟩
abbrev b_Mo_holds : ByteArray := prog_11_method_15_code
def y_Mo_holds : MethodName := ⟨"ProofGateModel", "holds", "(I)Z"⟩
abbrev b_Mo_speaks : ByteArray := prog_11_method_17_code
def y_Mo_speaks : MethodName := ⟨"ProofGateModel", "speaks", "(II)I"⟩
abbrev b_Mo_trusts : ByteArray := prog_11_method_18_code
def y_Mo_trusts : MethodName := ⟨"ProofGateModel", "trusts", "(IIII)I"⟩
abbrev b_Mo_finds : ByteArray := prog_11_method_20_code
def y_Mo_finds : MethodName := ⟨"ProofGateModel", "finds", "(IIII)Z"⟩
abbrev b_Mo_goesOn : ByteArray := prog_11_method_25_code
def y_Mo_goesOn : MethodName := ⟨"ProofGateModel", "goesOn", "()Z"⟩
abbrev b_Mo_newMay : ByteArray := prog_11_method_22_code
def y_Mo_newMay : MethodName := ⟨"ProofGateModel", "newMay", "(III)Z"⟩
abbrev b_Mo_had : ByteArray := prog_11_method_19_code
def y_Mo_had : MethodName := ⟨"ProofGateModel", "had", "(I)Z"⟩
abbrev b_Mo_newTrust : ByteArray := prog_11_method_23_code
def y_Mo_newTrust : MethodName := ⟨"ProofGateModel", "newTrust", "(IIII)Z"⟩
abbrev b_Mo_newVoice : ByteArray := prog_11_method_24_code
def y_Mo_newVoice : MethodName := ⟨"ProofGateModel", "newVoice", "(II)Z"⟩
abbrev b_Mo_needed : ByteArray := prog_11_method_27_code
def y_Mo_needed : MethodName := ⟨"ProofGateModel", "needed", "(I)I"⟩
abbrev b_Mo_note : ByteArray := prog_11_method_28_code
def y_Mo_note : MethodName := ⟨"ProofGateModel", "note", "(I)V"⟩
abbrev b_Mo_check : ByteArray := prog_11_method_42_code
def y_Mo_check : MethodName := ⟨"ProofGateModel", "check", "(III)Z"⟩
abbrev b_Mo_proves : ByteArray := prog_11_method_34_code
def y_Mo_proves : MethodName := ⟨"ProofGateModel", "proves", "(IIII)Z"⟩
abbrev b_Mo_proved : ByteArray := prog_11_method_32_code
def y_Mo_proved : MethodName := ⟨"ProofGateModel", "proved", "(I)I"⟩
abbrev b_Mo_spoken : ByteArray := prog_11_method_33_code
def y_Mo_spoken : MethodName := ⟨"ProofGateModel", "spoken", "(I)I"⟩
abbrev b_Mo_fact : ByteArray := prog_11_method_29_code
def y_Mo_fact : MethodName := ⟨"ProofGateModel", "fact", "(IIIIII)I"⟩
abbrev b_Mo_stepFact : ByteArray := prog_11_method_31_code
def y_Mo_stepFact : MethodName := ⟨"ProofGateModel", "stepFact", "(II)I"⟩
abbrev b_Mo_item : ByteArray := prog_11_method_30_code
def y_Mo_item : MethodName := ⟨"ProofGateModel", "item", "(II)I"⟩
abbrev b_Mo_request : ByteArray := prog_11_method_43_code
def y_Mo_request : MethodName := ⟨"ProofGateModel", "request", "(IIIIZ)I"⟩
abbrev b_Mo_done : ByteArray := prog_11_method_44_code
def y_Mo_done : MethodName := ⟨"ProofGateModel", "done", "(IIII)I"⟩
abbrev b_Mo_pass : ByteArray := prog_11_method_45_code
def y_Mo_pass : MethodName := ⟨"ProofGateModel", "pass", "(I)I"⟩
abbrev b_Mo_owner : ByteArray := prog_11_method_46_code
def y_Mo_owner : MethodName := ⟨"ProofGateModel", "owner", "(I)I"⟩
abbrev b_Mo_credentials : ByteArray := prog_11_method_47_code
def y_Mo_credentials : MethodName := ⟨"ProofGateModel", "credentials", "()I"⟩
abbrev b_Mo_valid : ByteArray := prog_11_method_48_code
def y_Mo_valid : MethodName := ⟨"ProofGateModel", "valid", "(I)Z"⟩
abbrev b_Mo_grants : ByteArray := prog_11_method_49_code
def y_Mo_grants : MethodName := ⟨"ProofGateModel", "grants", "()I"⟩
abbrev b_Mo_chain : ByteArray := prog_11_method_50_code
def y_Mo_chain : MethodName := ⟨"ProofGateModel", "chain", "()I"⟩
def T_AL : u_T := fun k => match k with
  | 0 => ("java/util/ArrayList", "elementData", "[Ljava/lang/Object;", false)
  | 1 => ("java/util/ArrayList", "size", "I", false)
  | _ => ("java/util/AbstractList", "modCount", "I", false)
def t_AL : Nat → FieldType := fun k => match k with
  | 0 => .array (.object "java/lang/Object")
  | 1 => .int
  | _ => .int
def T_Lg : u_T := fun k => match k with
  | 0 => ("ProofGate$AuditLog", "count", "I", false)
  | _ => ("ProofGate$AuditLog", "link", "I", false)
def t_Lg : Nat → FieldType := fun k => match k with
  | 0 => .int
  | _ => .int
def T_Ck : u_T := fun k => match k with
  | 0 => ("ProofGate$Checker", "held", "LProofGate$Credentials;", true)
  | _ => ("ProofGate$Checker", "facts", "[LProofGate$Fact;", true)
def t_Ck : Nat → FieldType := fun k => match k with
  | 0 => .object "ProofGate$Credentials"
  | _ => .array (.object "ProofGate$Fact")
def T_Cr : u_T := fun k => match k with
  | 0 => ("ProofGate$Credential", "issuer", "I", true)
  | 1 => ("ProofGate$Credential", "kind", "I", true)
  | 2 => ("ProofGate$Credential", "numbers", "[I", true)
  | 3 => ("ProofGate$Credential", "first", "I", true)
  | 4 => ("ProofGate$Credential", "last", "I", true)
  | _ => ("ProofGate$Credential", "revoked", "Z", false)
def t_Cr : Nat → FieldType := fun k => match k with
  | 0 => .int
  | 1 => .int
  | 2 => .array (.int)
  | 3 => .int
  | 4 => .int
  | _ => .boolean
def T_Cs : u_T := fun k => match k with
  | 0 => ("ProofGate$Credentials", "taken", "Ljava/util/ArrayList;", true)
  | _ => ("ProofGate$Credentials", "time", "I", false)
def t_Cs : Nat → FieldType := fun k => match k with
  | 0 => .object "java/util/ArrayList"
  | _ => .int
def T_Fa : u_T := fun k => match k with
  | 0 => ("ProofGate$Fact", "kind", "I", false)
  | 1 => ("ProofGate$Fact", "of", "I", false)
  | 2 => ("ProofGate$Fact", "to", "I", false)
  | 3 => ("ProofGate$Fact", "right", "I", false)
  | 4 => ("ProofGate$Fact", "object", "I", false)
  | _ => ("ProofGate$Fact", "depth", "I", false)
def t_Fa : Nat → FieldType := fun k => match k with
  | 0 => .int
  | 1 => .int
  | 2 => .int
  | 3 => .int
  | 4 => .int
  | _ => .int
def T_Fu : u_T := fun k => match k with
  | _ => ("ProofGate$Fuse", "left", "I", false)
def t_Fu : Nat → FieldType := fun k => match k with
  | _ => .int
def T_Pf : u_T := fun k => match k with
  | 0 => ("ProofGate$Proof", "rules", "[I", true)
  | 1 => ("ProofGate$Proof", "xs", "[I", true)
  | 2 => ("ProofGate$Proof", "ys", "[I", true)
  | _ => ("ProofGate$Proof", "length", "I", false)
def t_Pf : Nat → FieldType := fun k => match k with
  | 0 => .array (.int)
  | 1 => .array (.int)
  | 2 => .array (.int)
  | _ => .int
def T_Pv : u_T := fun k => match k with
  | 0 => ("ProofGate$Prover", "held", "LProofGate$Credentials;", true)
  | 1 => ("ProofGate$Prover", "written", "LProofGate$Proof;", true)
  | 2 => ("ProofGate$Prover", "roundOf", "[I", true)
  | 3 => ("ProofGate$Prover", "ruleOf", "[I", true)
  | 4 => ("ProofGate$Prover", "firstOf", "[I", true)
  | 5 => ("ProofGate$Prover", "secondOf", "[I", true)
  | 6 => ("ProofGate$Prover", "stepOf", "[I", true)
  | 7 => ("ProofGate$Prover", "round", "I", false)
  | _ => ("ProofGate$Prover", "foundSome", "Z", false)
def t_Pv : Nat → FieldType := fun k => match k with
  | 0 => .object "ProofGate$Credentials"
  | 1 => .object "ProofGate$Proof"
  | 2 => .array (.int)
  | 3 => .array (.int)
  | 4 => .array (.int)
  | 5 => .array (.int)
  | 6 => .array (.int)
  | 7 => .int
  | _ => .boolean
def T_Ga : u_T := fun k => match k with
  | 0 => ("ProofGate", "secret", "I", true)
  | 1 => ("ProofGate", "numbers", "[I", true)
  | 2 => ("ProofGate", "held", "LProofGate$Credentials;", true)
  | 3 => ("ProofGate", "draft", "LProofGate$Proof;", true)
  | 4 => ("ProofGate", "prover", "LProofGate$Prover;", true)
  | 5 => ("ProofGate", "checker", "LProofGate$Checker;", true)
  | 6 => ("ProofGate", "log", "LProofGate$AuditLog;", true)
  | 7 => ("ProofGate", "wire", "LProofGate$Fuse;", true)
  | 8 => ("ProofGate", "owners", "[I", true)
  | _ => ("ProofGate", "values", "[I", true)
def t_Ga : Nat → FieldType := fun k => match k with
  | 0 => .int
  | 1 => .array (.int)
  | 2 => .object "ProofGate$Credentials"
  | 3 => .object "ProofGate$Proof"
  | 4 => .object "ProofGate$Prover"
  | 5 => .object "ProofGate$Checker"
  | 6 => .object "ProofGate$AuditLog"
  | 7 => .object "ProofGate$Fuse"
  | 8 => .array (.int)
  | _ => .array (.int)
def T_Mo : u_T := fun k => match k with
  | 0 => ("ProofGateModel", "secret", "I", true)
  | 1 => ("ProofGateModel", "time", "I", false)
  | 2 => ("ProofGateModel", "fault", "I", false)
  | 3 => ("ProofGateModel", "lit", "Z", false)
  | 4 => ("ProofGateModel", "left", "I", false)
  | 5 => ("ProofGateModel", "there", "[Z", true)
  | 6 => ("ProofGateModel", "owner", "[I", true)
  | 7 => ("ProofGateModel", "value", "[I", true)
  | 8 => ("ProofGateModel", "grants", "I", false)
  | 9 => ("ProofGateModel", "chain", "I", false)
  | 10 => ("ProofGateModel", "credentials", "I", false)
  | 11 => ("ProofGateModel", "issuer", "[I", true)
  | 12 => ("ProofGateModel", "kind", "[I", true)
  | 13 => ("ProofGateModel", "one", "[I", true)
  | 14 => ("ProofGateModel", "two", "[I", true)
  | 15 => ("ProofGateModel", "three", "[I", true)
  | 16 => ("ProofGateModel", "four", "[I", true)
  | 17 => ("ProofGateModel", "first", "[I", true)
  | 18 => ("ProofGateModel", "last", "[I", true)
  | 19 => ("ProofGateModel", "revoked", "[Z", true)
  | 20 => ("ProofGateModel", "given", "[I", true)
  | 21 => ("ProofGateModel", "drafted", "I", false)
  | 22 => ("ProofGateModel", "made", "I", false)
  | 23 => ("ProofGateModel", "rule", "[I", true)
  | 24 => ("ProofGateModel", "left1", "[I", true)
  | 25 => ("ProofGateModel", "left2", "[I", true)
  | 26 => ("ProofGateModel", "facts", "[I", true)
  | 27 => ("ProofGateModel", "madeRule", "[I", true)
  | 28 => ("ProofGateModel", "madeX", "[I", true)
  | 29 => ("ProofGateModel", "madeY", "[I", true)
  | 30 => ("ProofGateModel", "round", "[I", true)
  | 31 => ("ProofGateModel", "by", "[I", true)
  | 32 => ("ProofGateModel", "from", "[I", true)
  | 33 => ("ProofGateModel", "with", "[I", true)
  | 34 => ("ProofGateModel", "place", "[I", true)
  | 35 => ("ProofGateModel", "stack", "[I", true)
  | 36 => ("ProofGateModel", "now", "I", false)
  | _ => ("ProofGateModel", "about", "I", false)
def t_Mo : Nat → FieldType := fun k => match k with
  | 0 => .int
  | 1 => .int
  | 2 => .int
  | 3 => .boolean
  | 4 => .int
  | 5 => .array (.boolean)
  | 6 => .array (.int)
  | 7 => .array (.int)
  | 8 => .int
  | 9 => .int
  | 10 => .int
  | 11 => .array (.int)
  | 12 => .array (.int)
  | 13 => .array (.int)
  | 14 => .array (.int)
  | 15 => .array (.int)
  | 16 => .array (.int)
  | 17 => .array (.int)
  | 18 => .array (.int)
  | 19 => .array (.boolean)
  | 20 => .array (.int)
  | 21 => .int
  | 22 => .int
  | 23 => .array (.int)
  | 24 => .array (.int)
  | 25 => .array (.int)
  | 26 => .array (.int)
  | 27 => .array (.int)
  | 28 => .array (.int)
  | 29 => .array (.int)
  | 30 => .array (.int)
  | 31 => .array (.int)
  | 32 => .array (.int)
  | 33 => .array (.int)
  | 34 => .array (.int)
  | 35 => .array (.int)
  | 36 => .int
  | _ => .int
abbrev vwCl : List vw_C := [("java/util/ArrayList", T_AL, 3), ("ProofGate$AuditLog", T_Lg, 2), ("ProofGate$Checker", T_Ck, 2), ("ProofGate$Credential", T_Cr, 6), ("ProofGate$Credentials", T_Cs, 2), ("ProofGate$Fact", T_Fa, 6), ("ProofGate$Fuse", T_Fu, 1), ("ProofGate$Proof", T_Pf, 4), ("ProofGate$Prover", T_Pv, 9), ("ProofGate", T_Ga, 10), ("ProofGateModel", T_Mo, 38)]
end
section
/-! The memory that class and reference run in, by places of our own: L says what lies at a place (an array's kind and length, an object's class and its references), M says the ints that lie in it; 'r' carries places to addresses. V: the machine's frame over such a memory comes to its end. -/
abbrev gK : Type := (Nat × Nat × Option (Option (Nat → Option Nat))) ⊕ (Nat × List (Option Value))
abbrev gLy : Type := Nat → Option gK
abbrev gMe : Type := Nat → Nat → Int32
/-- what stays: the classes' numbers and slots, the arrays' classes, the base, the heap below it, the given tables' addresses, what else is known of a state -/
abbrev gG : Type := va_G × (Nat → ClassId) × Nat × Heap × (Nat → Nat) × (State → Prop)
def gV (r : Nat → Nat) (v : Value) : Value := match v with
  | .ref a => .ref (r a)
  | w => w
theorem gV_cat (r : Nat → Nat) (v : Value) : (gV r v).category = v.category := by cases v <;> rfl
theorem gV_eq {r r' : Nat → Nat} {v : Value} (h : ∀ a, v = .ref a → r' a = r a) : gV r' v = gV r v := by
  cases v <;> first | rfl | exact congrArg Value.ref (h _ rfl)
def gO (r : Nat → Nat) (x : Int32) (o : Option Value) : Value := match o with
  | none => .int x
  | some v => gV r v
def gF (r : Nat → Nat) (u : Nat → Int32) (fs : List (Option Value)) : List Value := fs.mapIdx (fun k o => gO r (u k) o)
theorem gF_at (r : Nat → Nat) (u : Nat → Int32) (fs : List (Option Value)) (k : Nat) : (gF r u fs)[k]? = (fs[k]?).map (fun o => gO r (u k) o) := by
  simp [gF]
theorem gF_len (r : Nat → Nat) (u : Nat → Int32) (fs : List (Option Value)) : (gF r u fs).length = fs.length := by simp [gF]
theorem gF_seti (r : Nat → Nat) (u : Nat → Int32) {fs : List (Option Value)} {k : Nat} (x : Int32) (h : fs[k]? = some none) : (gF r u fs).set k (.int x) = gF r (upd u k x) fs := by
  apply List.ext_getElem?
  intro j
  have hk : k < fs.length := (List.getElem?_eq_some_iff.mp h).1
  by_cases hj : j = k
  · subst hj
    rw [List.getElem?_set_self (by rw [gF_len]; exact hk), gF_at, h]
    simp [gO, upd]
  · rw [List.getElem?_set_ne (Ne.symm hj), gF_at, gF_at]
    simp [upd, hj]
theorem gF_setr (r : Nat → Nat) (u : Nat → Int32) {fs : List (Option Value)} {k : Nat} (v : Value) (hk : k < fs.length) : (gF r u fs).set k (gV r v) = gF r u (fs.set k (some v)) := by
  apply List.ext_getElem?
  intro j
  by_cases hj : j = k
  · subst hj
    rw [List.getElem?_set_self (by rw [gF_len]; exact hk), gF_at, List.getElem?_set_self hk]
    rfl
  · rw [List.getElem?_set_ne (Ne.symm hj), gF_at, gF_at, List.getElem?_set_ne (Ne.symm hj)]
def gE (dA : Nat → ClassId) (r : Nat → Nat) (k : gK) (u : Nat → Int32) : va_E := match k with
  | .inl (t, n, none) => .inl (dA t, n, .inl u)
  | .inl (t, n, some none) => .inl (dA t, n, .inr (.inl (fun j => (u j).toInt64)))
  | .inl (t, n, some (some f)) => .inl (dA t, n, .inr (.inr (.inr (.inr (fun j => (f j).map r)))))
  | .inr (ci, fs) => .inr (ci, gF r u fs)
/-- the places that a cell refers to -/
def gRf (k : gK) (b : Nat) : Prop := match k with
  | .inl (_, _, some (some f)) => ∃ j, f j = some b
  | .inr (_, fs) => some (Value.ref b) ∈ fs
  | _ => False
theorem gE_eq {dA : Nat → ClassId} {r r' : Nat → Nat} {k : gK} {u : Nat → Int32} (h : ∀ b, gRf k b → r' b = r b) : gE dA r' k u = gE dA r k u := by
  rcases k with ⟨t, n, _ | _ | f⟩ | ⟨ci, fs⟩
  · rfl
  · rfl
  · show Sum.inl _ = Sum.inl _
    have e : (fun j => (f j).map r') = (fun j => (f j).map r) := by
      funext j
      cases hf : f j with
      | none => rfl
      | some b => exact congrArg some (h b ⟨j, hf⟩)
    rw [e]
  · show Sum.inr _ = Sum.inr _
    have e : gF r' u fs = gF r u fs := by
      apply List.ext_getElem?
      intro j
      rw [gF_at, gF_at]
      cases hf : fs[j]? with
      | none => rfl
      | some o =>
        cases o with
        | none => rfl
        | some v =>
          show some _ = some _
          have : gV r' v = gV r v := gV_eq (fun a ha => h a (by subst ha; exact List.mem_of_getElem? hf))
          exact congrArg some this
    rw [e]
/-- the memory at its addresses in the heap; below the base nothing has changed -/
def gR (G : gG) (r : Nat → Nat) (L : gLy) (M : gMe) (H : Heap) : Prop :=
  (∀ a k, L a = some k → va_at G.1 vwCl (r a, gE G.2.1 r k (M a)) H ∧ G.2.2.1 ≤ r a ∧ 2 ≤ a) ∧ (∀ a b, L a ≠ none → L b ≠ none → r a = r b → a = b) ∧ (∀ a k, L a = some k → ∀ b, gRf k b → b < 2 ∨ L b ≠ none) ∧
  (∀ i, i < 2 → r i = G.2.2.2.2.1 i) ∧ G.2.2.1 ≤ H.size ∧ ∀ q : Nat, q < G.2.2.1 → H[q]? = G.2.2.2.1[q]?
/-- what is known of the tables in a state -/
abbrev tyL (dA : Nat → ClassId) : List (ClassId × FieldType) := [(dA 0, .int), (dA 1, .boolean), (dA 2, .long), (dA 3, .object "ProofGate$Fact"), (dA 4, .object "java/lang/Object")]
def gW (G : gG) (U : State) : Prop := (∀ w ∈ TB, va_Nw w U) ∧ (∀ w ∈ NB, va_Nw w U) ∧ va_K G.1 vwCl (tyL G.2.1) U ∧ G.2.2.2.2.2 U ∧ ∀ s U : State, s.WarmedH U.vm → G.2.2.2.2.2 s → G.2.2.2.2.2 U
theorem gW.moved {G : gG} {s U : State} (hW : s.WarmedH U.vm) (h : gW G s) : gW G U := by
  obtain ⟨h1, h2, h3, h4, h5⟩ := h
  refine ⟨fun w hw => ?_, fun w hw => NB_warm w hw hW (h2 w hw), va_K.moved hW.alike h3, h5 s U hW h4, h5⟩
  exact word_at hW (good_of_word (TB_good w hw)) (h1 w hw)
theorem gW.t {G : gG} {U : State} (h : gW G U) {w : Cond} (hw : w ∈ TB) {A : Array Value} : w.before A U = true := by
  rcases good_of_word (TB_good w hw) with hg | ⟨ty, rfl⟩
  · simp only [Bool.and_eq_true] at hg
    exact va_Nw.use hg.1 (h.1 w hw)
  · exact word_at (State.WarmedH.refl U) (Or.inr ⟨ty, rfl⟩) (h.1 _ hw)
/-- the locals -/
def gP (r : Nat → Nat) (lv : List (Option Value)) : List (Nat × Value) := (lv.mapIdx (fun i o => (i, o))).filterMap (fun q => q.2.map (fun v => (q.1, gV r v)))
theorem gP_mem {r : Nat → Nat} {lv : List (Option Value)} {q : Nat × Value} : q ∈ gP r lv ↔ ∃ v, lv[q.1]? = some (some v) ∧ q.2 = gV r v := by
  unfold gP
  rw [List.mem_filterMap]
  constructor
  · rintro ⟨⟨i, o⟩, h1, h2⟩
    obtain ⟨j, hj⟩ := List.getElem?_of_mem h1
    rw [List.getElem?_mapIdx] at hj
    cases ho : lv[j]? with
    | none => rw [ho] at hj; cases hj
    | some o' =>
      rw [ho] at hj
      cases hj
      cases o with
      | none => cases h2
      | some v =>
        cases h2
        exact ⟨v, ho, rfl⟩
  · rintro ⟨v, h1, h2⟩
    refine ⟨(q.1, some v), ?_, ?_⟩
    · apply List.mem_of_getElem? (i := q.1)
      rw [List.getElem?_mapIdx, h1]
      rfl
    · show some (q.1, gV r v) = some q
      rw [← h2]
def gH (ls : Array Slot) (nL : Nat) (r : Nat → Nat) (lv : List (Option Value)) : Prop := lv_has ls nL (gP r lv) ∧ ∀ v, some v ∈ lv → v.category = 1
theorem gH.at {ls : Array Slot} {nL : Nat} {r : Nat → Nat} {lv : List (Option Value)} (h : gH ls nL r lv) {i : Nat} {v : Value} (hi : lv[i]? = some (some v)) : ls[i]? = some (.val (gV r v)) := h.1.2.2 (i, gV r v) (gP_mem.mpr ⟨v, hi, rfl⟩)
theorem gH.set {ls' : Array Slot} {nL : Nat} {r : Nat → Nat} {lv : List (Option Value)} {i : Nat} {v : Value} (hc : ∀ v, some v ∈ lv → v.category = 1) (hv : v.category = 1)
    (h : lv_has ls' nL ((i, gV r v) :: (gP r lv).filter (fun q => !(q.1 == i) && !(q.1 + 1 == i && q.2.category == 2)))) : gH ls' nL r (lv.set i (some v)) := by
  refine ⟨⟨h.1, h.2.1, fun q hq => h.2.2 q ?_⟩, fun w hw => ?_⟩
  · obtain ⟨w, h1, h2⟩ := gP_mem.mp hq
    by_cases hj : q.1 = i
    · have hl : i < lv.length := by
        have := (List.getElem?_eq_some_iff.mp h1).1
        rw [List.length_set] at this
        omega
      rw [hj, List.getElem?_set_self hl] at h1
      cases h1
      obtain ⟨q1, q2⟩ := q
      dsimp only at hj h2
      rw [hj, h2]
      exact List.mem_cons_self
    · rw [List.getElem?_set_ne (Ne.symm hj)] at h1
      refine List.mem_cons_of_mem _ (List.mem_filter.mpr ⟨gP_mem.mpr ⟨w, h1, h2⟩, ?_⟩)
      have hw : q.2.category = 1 := by rw [h2, gV_cat]; exact hc w (List.mem_of_getElem? h1)
      simp [hj, hw]
  · rcases List.mem_or_eq_of_mem_set hw with hw | hw
    · exact hc w hw
    · cases hw
      exact hv
theorem gH.re {ls : Array Slot} {nL : Nat} {r r' : Nat → Nat} {lv : List (Option Value)} (h : gH ls nL r lv) (hr : ∀ a, some (Value.ref a) ∈ lv → r' a = r a) : gH ls nL r' lv := by
  refine ⟨⟨h.1.1, h.1.2.1, fun q hq => ?_⟩, h.2⟩
  obtain ⟨v, h1, h2⟩ := gP_mem.mp hq
  rw [h2, gV_eq (r := r) (fun a ha => hr a (by subst ha; exact List.mem_of_getElem? h1))]
  exact h.at h1
theorem gA_mem : ∀ (vs : List Value) (j i : Nat) (v : Value), (∀ w ∈ vs, w.category = 1) → vs[i]? = some v → (j + i, v) ∈ lv_args j vs
  | [], j, i, v, _, h => by simp at h
  | w :: vs, j, i, v, hc, h => by
    have hw : w.category = 1 := hc w List.mem_cons_self
    unfold lv_args
    rw [if_neg (by omega)]
    cases i with
    | zero =>
      rw [List.getElem?_cons_zero] at h
      cases h
      exact List.mem_cons_self
    | succ i =>
      rw [List.getElem?_cons_succ] at h
      have := gA_mem vs (j + 1) i v (fun w hw => hc w (List.mem_cons_of_mem _ hw)) h
      rw [show j + (i + 1) = j + 1 + i by omega]
      exact List.mem_cons_of_mem _ this
theorem gA_len (vs : List Value) (hc : ∀ w ∈ vs, w.category = 1) : (lg_sl vs).length = vs.length := by
  unfold lg_sl
  induction vs with
  | nil => rfl
  | cons w vs ih =>
    have hw : w.category = 1 := hc w List.mem_cons_self
    rw [List.flatMap_cons, List.length_append, ih (fun w hw => hc w (List.mem_cons_of_mem _ hw)), if_neg (by omega), List.length_cons]
    simp
    omega
/-- the end of a method: its answer, the memory behind it -/
def gQ (G : gG) (r : Nat → Nat) (Z : Nat → Prop) (post : Option Value → gLy → gMe → Prop) : Array Value → State → Outcome → State → Prop := fun _ _ oc t =>
  ∃ (v : Option Value) (L' : gLy) (M' : gMe) (r' : Nat → Nat), oc = .returned (v.map (gV r')) ∧ post v L' M' ∧ (∀ a, Z a → r' a = r a) ∧ gW G t ∧ gR G r' L' M' t.heap
def gMet (l : Launch) (G : gG) (y : MethodName) (cc : ByteArray) (nL : Nat) (ret : Option FieldType) (rm : Room) (as : List Value) (L : gLy) (M : gMe) (Z : Nat → Prop) (post : Option Value → gLy → gMe → Prop) (mc ms : Nat) : Prop :=
  ∀ r : Nat → Nat, Met l y [.code y cc nL ret] rm (va_Pc (as.map (gV r)) (fun U => gW G U ∧ gR G r L M U.heap)) (gQ G r Z post) mc ms (fun q => G.2.2.1 ≤ q)
def gC (p : Program) (s : State) (m : MethodId) (meth : Method) (c : Code) (y : MethodName) (cc : ByteArray) (nL : Nat) (ret : Option FieldType) : Prop :=
  p.tables.exec = Jvm.exec ∧ c.code = cc ∧ meth.sig.returnType = ret ∧ c.maxLocals = nL ∧ s.vm.findClass y.cls = some m.cls ∧ meth.locks = false ∧ meth.name = y.name
def V (l : Launch) (G : gG) (y : MethodName) (cc : ByteArray) (nL : Nat) (ret : Option FieldType) (R : Room) (mc ms : Nat) (Z : Nat → Prop) (post : Option Value → gLy → gMe → Prop) (L : gLy) (M : gMe) (cells slots : Nat) (lv : List (Option Value)) (pc : Nat) (st : List Value) : Prop :=
  ∀ (p : Program) (e : Env) (s : State) (m : MethodId) (args : Array Value) (below : List Frame) (meth : Method) (c : Code) (r0 r : Nat → Nat) (H : Heap) (locs : List Loc) (ls : Array Slot),
    gC p s m meth c y cc nL ret → (∀ a, Z a → r a = r0 a) → gW G s → gR G r L M H → (∀ q ∈ locs, G.2.2.1 ≤ q.base) → gH ls nL r lv →
    W p l e R s m args below meth c H locs cells slots (MQ below (gQ G r0 Z post) args s mc ms (fun q => G.2.2.1 ≤ q)) (F0 m pc ls (st.map (gV r)))
theorem gMet_of {l : Launch} {G : gG} {y : MethodName} {cc : ByteArray} {nL : Nat} {ret : Option FieldType} {rm : Room} {as : List Value} {L : gLy} {M : gMe} {Z : Nat → Prop} {post : Option Value → gLy → gMe → Prop} {mc ms : Nat} {lv : List (Option Value)}
    (hy : plainName y.cls = true) (hc : as.all (fun v => v.category == 1) = true) (hn : as.length ≤ nL) (hlv : as.map some ++ List.replicate (nL - as.length) none = lv) (h : V l G y cc nL ret rm mc ms Z post L M 0 0 lv 0 []) : gMet l G y cc nL ret rm as L M Z post mc ms := by
  intro r
  refine Met.ofW (cc := cc) (maxL := nL) (ret := ret) hy rfl ?_
  intro p e s m args below meth c s₁ B hml hv
  obtain ⟨rfl, hW, hR⟩ := hv
  have hc1 : ∀ v ∈ as, v.category = 1 := fun v hv => by
    have := List.all_eq_true.mp hc v hv
    simpa using this
  have hc2 : ∀ w ∈ as.map (gV r), w.category = 1 := by
    intro w hw
    obtain ⟨v, hv, rfl⟩ := List.mem_map.mp hw
    rw [gV_cat]; exact hc1 v hv
  have hl := lv_entry (as.map (gV r)) (n := nL) (by rw [gA_len _ hc2, List.length_map]; exact hn)
  rw [lg_entry_eq]
  generalize (lg_sl (as.map (gV r)) ++ List.replicate (nL - (lg_sl (as.map (gV r))).length) Slot.unset).toArray = ls at hl ⊢
  refine h p e s m _ below meth c r r s.heap [] ls ⟨B.exec, B.bytes, B.returns, hml, findClass_of_methodNamed B.named, B.notSynchronized, (name_of_methodNamed B.named B.method).1⟩ (fun _ _ => rfl) hW hR (fun q h => by cases h) ⟨⟨hl.1, hl.2.1, fun q hq => hl.2.2 q ?_⟩, fun v hv => ?_⟩
  · obtain ⟨v, h1, h2⟩ := gP_mem.mp hq
    subst hlv
    by_cases hlt : q.1 < as.length
    · rw [List.getElem?_append_left (by simpa using hlt), List.getElem?_map] at h1
      cases ha : as[q.1]? with
      | none => rw [ha] at h1; cases h1
      | some w =>
        rw [ha] at h1
        cases h1
        have := gA_mem (as.map (gV r)) 0 q.1 (gV r v) hc2 (by rw [List.getElem?_map, ha]; rfl)
        rw [Nat.zero_add] at this
        obtain ⟨q1, q2⟩ := q
        dsimp only at h2 this ⊢
        rw [h2]; exact this
    · rw [List.getElem?_append_right (by simpa using Nat.le_of_not_lt hlt)] at h1
      have := List.mem_of_getElem? h1
      rw [List.mem_replicate] at this
      cases this.2
  · subst hlv
    rcases List.mem_append.mp hv with hv | hv
    · obtain ⟨w, hw, e⟩ := List.mem_map.mp hv
      cases e
      exact hc1 v hw
    · rw [List.mem_replicate] at hv
      cases hv.2
end
section
section gRows
variable {l : Launch} {G : gG} {y : MethodName} {cc : ByteArray} {nL : Nat} {ret : Option FieldType} {R : Room} {mc ms : Nat} {Z : Nat → Prop} {post : Option Value → gLy → gMe → Prop} {L : gLy} {M : gMe} {cells slots : Nat} {lv : List (Option Value)} {pc : Nat} {st : List Value}
theorem V_iconst (q : Nat) {n : Int} {v : Int32} (hv : Int32.ofInt n = v) (d : decode cc pc = .ok (.iconst n, 1)) (hq : pc + 1 = q) (k : V l G y cc nL ret R mc ms Z post L M cells slots lv q (.int v :: st)) : V l G y cc nL ret R mc ms Z post L M cells slots lv pc (st) := by
  subst hq
  intro p e s m args below meth c r0 r H locs ls hC hZ hW hR hlo hls
  exact lv_iconst hC.1 hC.2.1 d hv (k p e s m args below meth c r0 r H locs ls hC hZ hW hR hlo hls)
theorem V_bipush (q : Nat) {n : Int} {v : Int32} (hv : (Int8.ofInt n).toInt32 = v) (d : decode cc pc = .ok (.bipush n, 2)) (hq : pc + 2 = q) (k : V l G y cc nL ret R mc ms Z post L M cells slots lv q (.int v :: st)) : V l G y cc nL ret R mc ms Z post L M cells slots lv pc (st) := by
  subst hq
  intro p e s m args below meth c r0 r H locs ls hC hZ hW hR hlo hls
  exact lv_bipush hC.1 hC.2.1 d hv (k p e s m args below meth c r0 r H locs ls hC hZ hW hR hlo hls)
theorem V_sipush (q : Nat) {n : Int} {v : Int32} (hv : (Int16.ofInt n).toInt32 = v) (d : decode cc pc = .ok (.sipush n, 3)) (hq : pc + 3 = q) (k : V l G y cc nL ret R mc ms Z post L M cells slots lv q (.int v :: st)) : V l G y cc nL ret R mc ms Z post L M cells slots lv pc (st) := by
  subst hq
  intro p e s m args below meth c r0 r H locs ls hC hZ hW hR hlo hls
  exact lv_sipush hC.1 hC.2.1 d hv (k p e s m args below meth c r0 r H locs ls hC hZ hW hR hlo hls)
theorem V_lconst (q : Nat) {n : Fin 2} {v : Int64} (hv : Int64.ofNat (n : Nat) = v) (d : decode cc pc = .ok (.lconst n, 1)) (hq : pc + 1 = q) (k : V l G y cc nL ret R mc ms Z post L M cells slots lv q (.long v :: st)) : V l G y cc nL ret R mc ms Z post L M cells slots lv pc (st) := by
  subst hq
  intro p e s m args below meth c r0 r H locs ls hC hZ hW hR hlo hls
  exact lv_lconst hC.1 hC.2.1 d hv (k p e s m args below meth c r0 r H locs ls hC hZ hW hR hlo hls)
theorem V_ldc (q : Nat) {index : Nat} {v : Int32} (hw : Cond.constant y.cls index v ∈ TB) (d : decode cc pc = .ok (.ldc index, 2)) (hq : pc + 2 = q) (k : V l G y cc nL ret R mc ms Z post L M cells slots lv q (.int v :: st)) : V l G y cc nL ret R mc ms Z post L M cells slots lv pc (st) := by
  subst hq
  intro p e s m args below meth c r0 r H locs ls hC hZ hW hR hlo hls
  exact lv_ldc hC.1 hC.2.1 hC.2.2.2.2.1 (hW.t hw) d (k p e s m args below meth c r0 r H locs ls hC hZ hW hR hlo hls)
theorem V_ldcw (q : Nat) {index : Nat} {v : Int32} (hw : Cond.constant y.cls index v ∈ TB) (d : decode cc pc = .ok (.ldc_w index, 3)) (hq : pc + 3 = q) (k : V l G y cc nL ret R mc ms Z post L M cells slots lv q (.int v :: st)) : V l G y cc nL ret R mc ms Z post L M cells slots lv pc (st) := by
  subst hq
  intro p e s m args below meth c r0 r H locs ls hC hZ hW hR hlo hls
  exact lv_ldcw hC.1 hC.2.1 hC.2.2.2.2.1 (hW.t hw) d (k p e s m args below meth c r0 r H locs ls hC hZ hW hR hlo hls)
theorem V_null (q : Nat)  (d : decode cc pc = .ok (.aconst_null, 1)) (hq : pc + 1 = q) (k : V l G y cc nL ret R mc ms Z post L M cells slots lv q (.null :: st)) : V l G y cc nL ret R mc ms Z post L M cells slots lv pc (st) := by
  subst hq
  intro p e s m args below meth c r0 r H locs ls hC hZ hW hR hlo hls
  exact lv_null hC.1 hC.2.1 d (k p e s m args below meth c r0 r H locs ls hC hZ hW hR hlo hls)
theorem V_iadd (q : Nat) {x z : Int32} (d : decode cc pc = .ok (.iadd, 1)) (hq : pc + 1 = q) (k : V l G y cc nL ret R mc ms Z post L M cells slots lv q (.int (x + z) :: st)) : V l G y cc nL ret R mc ms Z post L M cells slots lv pc (.int z :: .int x :: st) := by
  subst hq
  intro p e s m args below meth c r0 r H locs ls hC hZ hW hR hlo hls
  exact lv_iadd hC.1 hC.2.1 d (k p e s m args below meth c r0 r H locs ls hC hZ hW hR hlo hls)
theorem V_isub (q : Nat) {x z : Int32} (d : decode cc pc = .ok (.isub, 1)) (hq : pc + 1 = q) (k : V l G y cc nL ret R mc ms Z post L M cells slots lv q (.int (x - z) :: st)) : V l G y cc nL ret R mc ms Z post L M cells slots lv pc (.int z :: .int x :: st) := by
  subst hq
  intro p e s m args below meth c r0 r H locs ls hC hZ hW hR hlo hls
  exact lv_isub hC.1 hC.2.1 d (k p e s m args below meth c r0 r H locs ls hC hZ hW hR hlo hls)
theorem V_imul (q : Nat) {x z : Int32} (d : decode cc pc = .ok (.imul, 1)) (hq : pc + 1 = q) (k : V l G y cc nL ret R mc ms Z post L M cells slots lv q (.int (x * z) :: st)) : V l G y cc nL ret R mc ms Z post L M cells slots lv pc (.int z :: .int x :: st) := by
  subst hq
  intro p e s m args below meth c r0 r H locs ls hC hZ hW hR hlo hls
  exact lv_imul hC.1 hC.2.1 d (k p e s m args below meth c r0 r H locs ls hC hZ hW hR hlo hls)
theorem V_iand (q : Nat) {x z : Int32} (d : decode cc pc = .ok (.iand, 1)) (hq : pc + 1 = q) (k : V l G y cc nL ret R mc ms Z post L M cells slots lv q (.int (x &&& z) :: st)) : V l G y cc nL ret R mc ms Z post L M cells slots lv pc (.int z :: .int x :: st) := by
  subst hq
  intro p e s m args below meth c r0 r H locs ls hC hZ hW hR hlo hls
  exact lv_iand hC.1 hC.2.1 d (k p e s m args below meth c r0 r H locs ls hC hZ hW hR hlo hls)
theorem V_ior (q : Nat) {x z : Int32} (d : decode cc pc = .ok (.ior, 1)) (hq : pc + 1 = q) (k : V l G y cc nL ret R mc ms Z post L M cells slots lv q (.int (x ||| z) :: st)) : V l G y cc nL ret R mc ms Z post L M cells slots lv pc (.int z :: .int x :: st) := by
  subst hq
  intro p e s m args below meth c r0 r H locs ls hC hZ hW hR hlo hls
  exact lv_ior hC.1 hC.2.1 d (k p e s m args below meth c r0 r H locs ls hC hZ hW hR hlo hls)
theorem V_ixor (q : Nat) {x z : Int32} (d : decode cc pc = .ok (.ixor, 1)) (hq : pc + 1 = q) (k : V l G y cc nL ret R mc ms Z post L M cells slots lv q (.int (x ^^^ z) :: st)) : V l G y cc nL ret R mc ms Z post L M cells slots lv pc (.int z :: .int x :: st) := by
  subst hq
  intro p e s m args below meth c r0 r H locs ls hC hZ hW hR hlo hls
  exact lv_ixor hC.1 hC.2.1 d (k p e s m args below meth c r0 r H locs ls hC hZ hW hR hlo hls)
theorem V_ishl (q : Nat) {x z : Int32} (d : decode cc pc = .ok (.ishl, 1)) (hq : pc + 1 = q) (k : V l G y cc nL ret R mc ms Z post L M cells slots lv q (.int (x <<< (z &&& 31)) :: st)) : V l G y cc nL ret R mc ms Z post L M cells slots lv pc (.int z :: .int x :: st) := by
  subst hq
  intro p e s m args below meth c r0 r H locs ls hC hZ hW hR hlo hls
  exact lv_ishl hC.1 hC.2.1 d (k p e s m args below meth c r0 r H locs ls hC hZ hW hR hlo hls)
theorem V_ishr (q : Nat) {x z : Int32} (d : decode cc pc = .ok (.ishr, 1)) (hq : pc + 1 = q) (k : V l G y cc nL ret R mc ms Z post L M cells slots lv q (.int (x >>> (z &&& 31)) :: st)) : V l G y cc nL ret R mc ms Z post L M cells slots lv pc (.int z :: .int x :: st) := by
  subst hq
  intro p e s m args below meth c r0 r H locs ls hC hZ hW hR hlo hls
  exact lv_ishr hC.1 hC.2.1 d (k p e s m args below meth c r0 r H locs ls hC hZ hW hR hlo hls)
theorem V_iushr (q : Nat) {x z : Int32} (d : decode cc pc = .ok (.iushr, 1)) (hq : pc + 1 = q) (k : V l G y cc nL ret R mc ms Z post L M cells slots lv q (.int ((x.toUInt32 >>> (z.toUInt32 &&& Int32.toUInt32 31)).toInt32) :: st)) : V l G y cc nL ret R mc ms Z post L M cells slots lv pc (.int z :: .int x :: st) := by
  subst hq
  intro p e s m args below meth c r0 r H locs ls hC hZ hW hR hlo hls
  exact lv_iushr hC.1 hC.2.1 d rfl (k p e s m args below meth c r0 r H locs ls hC hZ hW hR hlo hls)
theorem V_ineg (q : Nat) {x : Int32} (d : decode cc pc = .ok (.ineg, 1)) (hq : pc + 1 = q) (k : V l G y cc nL ret R mc ms Z post L M cells slots lv q (.int (-x) :: st)) : V l G y cc nL ret R mc ms Z post L M cells slots lv pc (.int x :: st) := by
  subst hq
  intro p e s m args below meth c r0 r H locs ls hC hZ hW hR hlo hls
  exact lv_ineg hC.1 hC.2.1 d (k p e s m args below meth c r0 r H locs ls hC hZ hW hR hlo hls)
theorem V_i2l (q : Nat) {x : Int32} (d : decode cc pc = .ok (.i2l, 1)) (hq : pc + 1 = q) (k : V l G y cc nL ret R mc ms Z post L M cells slots lv q (.long x.toInt64 :: st)) : V l G y cc nL ret R mc ms Z post L M cells slots lv pc (.int x :: st) := by
  subst hq
  intro p e s m args below meth c r0 r H locs ls hC hZ hW hR hlo hls
  exact lv_i2l hC.1 hC.2.1 d rfl (k p e s m args below meth c r0 r H locs ls hC hZ hW hR hlo hls)
theorem V_lcmp (q : Nat) {x z : Int64} (d : decode cc pc = .ok (.lcmp, 1)) (hq : pc + 1 = q) (k : V l G y cc nL ret R mc ms Z post L M cells slots lv q (.int (lg_cmp x z) :: st)) : V l G y cc nL ret R mc ms Z post L M cells slots lv pc (.long z :: .long x :: st) := by
  subst hq
  intro p e s m args below meth c r0 r H locs ls hC hZ hW hR hlo hls
  exact W.lcmp hC.1 hC.2.1 d (k p e s m args below meth c r0 r H locs ls hC hZ hW hR hlo hls)
theorem V_dup (q : Nat) {a : Value} (ha : a.category = 1) (d : decode cc pc = .ok (.dup, 1)) (hq : pc + 1 = q) (k : V l G y cc nL ret R mc ms Z post L M cells slots lv q (a :: a :: st)) : V l G y cc nL ret R mc ms Z post L M cells slots lv pc (a :: st) := by
  subst hq
  intro p e s m args below meth c r0 r H locs ls hC hZ hW hR hlo hls
  exact lv_dup hC.1 hC.2.1 d (by rw [gV_cat]; exact ha) (k p e s m args below meth c r0 r H locs ls hC hZ hW hR hlo hls)
theorem V_pop (q : Nat) {a : Value} (ha : a.category = 1) (d : decode cc pc = .ok (.pop, 1)) (hq : pc + 1 = q) (k : V l G y cc nL ret R mc ms Z post L M cells slots lv q (st)) : V l G y cc nL ret R mc ms Z post L M cells slots lv pc (a :: st) := by
  subst hq
  intro p e s m args below meth c r0 r H locs ls hC hZ hW hR hlo hls
  exact lv_pop hC.1 hC.2.1 d (by rw [gV_cat]; exact ha) (k p e s m args below meth c r0 r H locs ls hC hZ hW hR hlo hls)
theorem V_dup_x1 (q : Nat) {a b : Value} (ha : a.category = 1) (hb : b.category = 1) (d : decode cc pc = .ok (.dup_x1, 1)) (hq : pc + 1 = q) (k : V l G y cc nL ret R mc ms Z post L M cells slots lv q (a :: b :: a :: st)) : V l G y cc nL ret R mc ms Z post L M cells slots lv pc (a :: b :: st) := by
  subst hq
  intro p e s m args below meth c r0 r H locs ls hC hZ hW hR hlo hls
  exact lv_dup_x1 hC.1 hC.2.1 d (by rw [gV_cat]; exact ha) (by rw [gV_cat]; exact hb) (k p e s m args below meth c r0 r H locs ls hC hZ hW hR hlo hls)
theorem V_dup_x2 (q : Nat) {a b z : Value} (ha : a.category = 1) (hb : b.category = 1) (hz : z.category = 1) (d : decode cc pc = .ok (.dup_x2, 1)) (hq : pc + 1 = q) (k : V l G y cc nL ret R mc ms Z post L M cells slots lv q (a :: b :: z :: a :: st)) : V l G y cc nL ret R mc ms Z post L M cells slots lv pc (a :: b :: z :: st) := by
  subst hq
  intro p e s m args below meth c r0 r H locs ls hC hZ hW hR hlo hls
  exact lv_dup_x2 hC.1 hC.2.1 d (by rw [gV_cat]; exact ha) (by rw [gV_cat]; exact hb) (by rw [gV_cat]; exact hz) (k p e s m args below meth c r0 r H locs ls hC hZ hW hR hlo hls)
theorem V_dup2 (q : Nat) {a b : Value} (ha : a.category = 1) (hb : b.category = 1) (d : decode cc pc = .ok (.dup2, 1)) (hq : pc + 1 = q) (k : V l G y cc nL ret R mc ms Z post L M cells slots lv q (a :: b :: a :: b :: st)) : V l G y cc nL ret R mc ms Z post L M cells slots lv pc (a :: b :: st) := by
  subst hq
  intro p e s m args below meth c r0 r H locs ls hC hZ hW hR hlo hls
  exact lv_dup2_11 hC.1 hC.2.1 d (by rw [gV_cat]; exact ha) (by rw [gV_cat]; exact hb) (k p e s m args below meth c r0 r H locs ls hC hZ hW hR hlo hls)
theorem V_if_eq (t q : Nat) {x : Int32} {off : Int} (d : decode cc pc = .ok (.ifCond .eq off, 3)) (ht : (pc : Int) + off = (t : Int)) (hq : pc + 3 = q) (kt : x = 0 → V l G y cc nL ret R mc ms Z post L M cells slots lv t st) (kf : ¬ x = 0 → V l G y cc nL ret R mc ms Z post L M cells slots lv q st) : V l G y cc nL ret R mc ms Z post L M cells slots lv pc (.int x :: st) := by
  subst hq
  intro p e s m args below meth c r0 r H locs ls hC hZ hW hR hlo hls
  exact lv_if_eq hC.1 hC.2.1 d ht (fun h => kt h p e s m args below meth c r0 r H locs ls hC hZ hW hR hlo hls) (fun h => kf h p e s m args below meth c r0 r H locs ls hC hZ hW hR hlo hls)
theorem V_icmp_eq (t q : Nat) {x z : Int32} {off : Int} (d : decode cc pc = .ok (.if_icmp .eq off, 3)) (ht : (pc : Int) + off = (t : Int)) (hq : pc + 3 = q) (kt : x = z → V l G y cc nL ret R mc ms Z post L M cells slots lv t st) (kf : ¬ x = z → V l G y cc nL ret R mc ms Z post L M cells slots lv q st) : V l G y cc nL ret R mc ms Z post L M cells slots lv pc (.int z :: .int x :: st) := by
  subst hq
  intro p e s m args below meth c r0 r H locs ls hC hZ hW hR hlo hls
  exact lv_icmp_eq hC.1 hC.2.1 d ht (fun h => kt h p e s m args below meth c r0 r H locs ls hC hZ hW hR hlo hls) (fun h => kf h p e s m args below meth c r0 r H locs ls hC hZ hW hR hlo hls)
theorem V_if_ne (t q : Nat) {x : Int32} {off : Int} (d : decode cc pc = .ok (.ifCond .ne off, 3)) (ht : (pc : Int) + off = (t : Int)) (hq : pc + 3 = q) (kt : ¬ x = 0 → V l G y cc nL ret R mc ms Z post L M cells slots lv t st) (kf : x = 0 → V l G y cc nL ret R mc ms Z post L M cells slots lv q st) : V l G y cc nL ret R mc ms Z post L M cells slots lv pc (.int x :: st) := by
  subst hq
  intro p e s m args below meth c r0 r H locs ls hC hZ hW hR hlo hls
  exact lv_if_ne hC.1 hC.2.1 d ht (fun h => kt h p e s m args below meth c r0 r H locs ls hC hZ hW hR hlo hls) (fun h => kf h p e s m args below meth c r0 r H locs ls hC hZ hW hR hlo hls)
theorem V_icmp_ne (t q : Nat) {x z : Int32} {off : Int} (d : decode cc pc = .ok (.if_icmp .ne off, 3)) (ht : (pc : Int) + off = (t : Int)) (hq : pc + 3 = q) (kt : ¬ x = z → V l G y cc nL ret R mc ms Z post L M cells slots lv t st) (kf : x = z → V l G y cc nL ret R mc ms Z post L M cells slots lv q st) : V l G y cc nL ret R mc ms Z post L M cells slots lv pc (.int z :: .int x :: st) := by
  subst hq
  intro p e s m args below meth c r0 r H locs ls hC hZ hW hR hlo hls
  exact lv_icmp_ne hC.1 hC.2.1 d ht (fun h => kt h p e s m args below meth c r0 r H locs ls hC hZ hW hR hlo hls) (fun h => kf h p e s m args below meth c r0 r H locs ls hC hZ hW hR hlo hls)
theorem V_if_lt (t q : Nat) {x : Int32} {off : Int} (d : decode cc pc = .ok (.ifCond .lt off, 3)) (ht : (pc : Int) + off = (t : Int)) (hq : pc + 3 = q) (kt : x < 0 → V l G y cc nL ret R mc ms Z post L M cells slots lv t st) (kf : ¬ x < 0 → V l G y cc nL ret R mc ms Z post L M cells slots lv q st) : V l G y cc nL ret R mc ms Z post L M cells slots lv pc (.int x :: st) := by
  subst hq
  intro p e s m args below meth c r0 r H locs ls hC hZ hW hR hlo hls
  exact lv_if_lt hC.1 hC.2.1 d ht (fun h => kt h p e s m args below meth c r0 r H locs ls hC hZ hW hR hlo hls) (fun h => kf h p e s m args below meth c r0 r H locs ls hC hZ hW hR hlo hls)
theorem V_icmp_lt (t q : Nat) {x z : Int32} {off : Int} (d : decode cc pc = .ok (.if_icmp .lt off, 3)) (ht : (pc : Int) + off = (t : Int)) (hq : pc + 3 = q) (kt : x < z → V l G y cc nL ret R mc ms Z post L M cells slots lv t st) (kf : ¬ x < z → V l G y cc nL ret R mc ms Z post L M cells slots lv q st) : V l G y cc nL ret R mc ms Z post L M cells slots lv pc (.int z :: .int x :: st) := by
  subst hq
  intro p e s m args below meth c r0 r H locs ls hC hZ hW hR hlo hls
  exact lv_icmp_lt hC.1 hC.2.1 d ht (fun h => kt h p e s m args below meth c r0 r H locs ls hC hZ hW hR hlo hls) (fun h => kf h p e s m args below meth c r0 r H locs ls hC hZ hW hR hlo hls)
theorem V_if_ge (t q : Nat) {x : Int32} {off : Int} (d : decode cc pc = .ok (.ifCond .ge off, 3)) (ht : (pc : Int) + off = (t : Int)) (hq : pc + 3 = q) (kt : 0 ≤ x → V l G y cc nL ret R mc ms Z post L M cells slots lv t st) (kf : ¬ 0 ≤ x → V l G y cc nL ret R mc ms Z post L M cells slots lv q st) : V l G y cc nL ret R mc ms Z post L M cells slots lv pc (.int x :: st) := by
  subst hq
  intro p e s m args below meth c r0 r H locs ls hC hZ hW hR hlo hls
  exact lv_if_ge hC.1 hC.2.1 d ht (fun h => kt h p e s m args below meth c r0 r H locs ls hC hZ hW hR hlo hls) (fun h => kf h p e s m args below meth c r0 r H locs ls hC hZ hW hR hlo hls)
theorem V_icmp_ge (t q : Nat) {x z : Int32} {off : Int} (d : decode cc pc = .ok (.if_icmp .ge off, 3)) (ht : (pc : Int) + off = (t : Int)) (hq : pc + 3 = q) (kt : z ≤ x → V l G y cc nL ret R mc ms Z post L M cells slots lv t st) (kf : ¬ z ≤ x → V l G y cc nL ret R mc ms Z post L M cells slots lv q st) : V l G y cc nL ret R mc ms Z post L M cells slots lv pc (.int z :: .int x :: st) := by
  subst hq
  intro p e s m args below meth c r0 r H locs ls hC hZ hW hR hlo hls
  exact lv_icmp_ge hC.1 hC.2.1 d ht (fun h => kt h p e s m args below meth c r0 r H locs ls hC hZ hW hR hlo hls) (fun h => kf h p e s m args below meth c r0 r H locs ls hC hZ hW hR hlo hls)
theorem V_if_gt (t q : Nat) {x : Int32} {off : Int} (d : decode cc pc = .ok (.ifCond .gt off, 3)) (ht : (pc : Int) + off = (t : Int)) (hq : pc + 3 = q) (kt : 0 < x → V l G y cc nL ret R mc ms Z post L M cells slots lv t st) (kf : ¬ 0 < x → V l G y cc nL ret R mc ms Z post L M cells slots lv q st) : V l G y cc nL ret R mc ms Z post L M cells slots lv pc (.int x :: st) := by
  subst hq
  intro p e s m args below meth c r0 r H locs ls hC hZ hW hR hlo hls
  exact lv_if_gt hC.1 hC.2.1 d ht (fun h => kt h p e s m args below meth c r0 r H locs ls hC hZ hW hR hlo hls) (fun h => kf h p e s m args below meth c r0 r H locs ls hC hZ hW hR hlo hls)
theorem V_icmp_gt (t q : Nat) {x z : Int32} {off : Int} (d : decode cc pc = .ok (.if_icmp .gt off, 3)) (ht : (pc : Int) + off = (t : Int)) (hq : pc + 3 = q) (kt : z < x → V l G y cc nL ret R mc ms Z post L M cells slots lv t st) (kf : ¬ z < x → V l G y cc nL ret R mc ms Z post L M cells slots lv q st) : V l G y cc nL ret R mc ms Z post L M cells slots lv pc (.int z :: .int x :: st) := by
  subst hq
  intro p e s m args below meth c r0 r H locs ls hC hZ hW hR hlo hls
  exact lv_icmp_gt hC.1 hC.2.1 d ht (fun h => kt h p e s m args below meth c r0 r H locs ls hC hZ hW hR hlo hls) (fun h => kf h p e s m args below meth c r0 r H locs ls hC hZ hW hR hlo hls)
theorem V_if_le (t q : Nat) {x : Int32} {off : Int} (d : decode cc pc = .ok (.ifCond .le off, 3)) (ht : (pc : Int) + off = (t : Int)) (hq : pc + 3 = q) (kt : x ≤ 0 → V l G y cc nL ret R mc ms Z post L M cells slots lv t st) (kf : ¬ x ≤ 0 → V l G y cc nL ret R mc ms Z post L M cells slots lv q st) : V l G y cc nL ret R mc ms Z post L M cells slots lv pc (.int x :: st) := by
  subst hq
  intro p e s m args below meth c r0 r H locs ls hC hZ hW hR hlo hls
  exact lv_if_le hC.1 hC.2.1 d ht (fun h => kt h p e s m args below meth c r0 r H locs ls hC hZ hW hR hlo hls) (fun h => kf h p e s m args below meth c r0 r H locs ls hC hZ hW hR hlo hls)
theorem V_icmp_le (t q : Nat) {x z : Int32} {off : Int} (d : decode cc pc = .ok (.if_icmp .le off, 3)) (ht : (pc : Int) + off = (t : Int)) (hq : pc + 3 = q) (kt : x ≤ z → V l G y cc nL ret R mc ms Z post L M cells slots lv t st) (kf : ¬ x ≤ z → V l G y cc nL ret R mc ms Z post L M cells slots lv q st) : V l G y cc nL ret R mc ms Z post L M cells slots lv pc (.int z :: .int x :: st) := by
  subst hq
  intro p e s m args below meth c r0 r H locs ls hC hZ hW hR hlo hls
  exact lv_icmp_le hC.1 hC.2.1 d ht (fun h => kt h p e s m args below meth c r0 r H locs ls hC hZ hW hR hlo hls) (fun h => kf h p e s m args below meth c r0 r H locs ls hC hZ hW hR hlo hls)
theorem V_goto (t : Nat) {off : Int} (d : decode cc pc = .ok (.goto off, 3)) (ht : (pc : Int) + off = (t : Int)) (k : V l G y cc nL ret R mc ms Z post L M cells slots lv t st) : V l G y cc nL ret R mc ms Z post L M cells slots lv pc st := by
  intro p e s m args below meth c r0 r H locs ls hC hZ hW hR hlo hls
  exact lv_goto hC.1 hC.2.1 d ht (k p e s m args below meth c r0 r H locs ls hC hZ hW hR hlo hls)
theorem V_nn (t : Nat) {off : Int} {a : Nat} (d : decode cc pc = .ok (.ifnonnull off, 3)) (ht : (pc : Int) + off = (t : Int)) (k : V l G y cc nL ret R mc ms Z post L M cells slots lv t st) : V l G y cc nL ret R mc ms Z post L M cells slots lv pc (.ref a :: st) := by
  intro p e s m args below meth c r0 r H locs ls hC hZ hW hR hlo hls
  exact lv_ifnonnull hC.1 hC.2.1 d ht (k p e s m args below meth c r0 r H locs ls hC hZ hW hR hlo hls)
theorem V_nnN (q : Nat) {off : Int} (d : decode cc pc = .ok (.ifnonnull off, 3)) (hq : pc + 3 = q) (k : V l G y cc nL ret R mc ms Z post L M cells slots lv q st) : V l G y cc nL ret R mc ms Z post L M cells slots lv pc (.null :: st) := by
  subst hq
  intro p e s m args below meth c r0 r H locs ls hC hZ hW hR hlo hls
  exact lv_ifnonnullN hC.1 hC.2.1 d (k p e s m args below meth c r0 r H locs ls hC hZ hW hR hlo hls)
theorem V_nul (q : Nat) {off : Int} {a : Nat} (d : decode cc pc = .ok (.ifnull off, 3)) (hq : pc + 3 = q) (k : V l G y cc nL ret R mc ms Z post L M cells slots lv q st) : V l G y cc nL ret R mc ms Z post L M cells slots lv pc (.ref a :: st) := by
  subst hq
  intro p e s m args below meth c r0 r H locs ls hC hZ hW hR hlo hls
  exact lv_ifnull hC.1 hC.2.1 d (k p e s m args below meth c r0 r H locs ls hC hZ hW hR hlo hls)
theorem V_nulN (t : Nat) {off : Int} (d : decode cc pc = .ok (.ifnull off, 3)) (ht : (pc : Int) + off = (t : Int)) (k : V l G y cc nL ret R mc ms Z post L M cells slots lv t st) : V l G y cc nL ret R mc ms Z post L M cells slots lv pc (.null :: st) := by
  intro p e s m args below meth c r0 r H locs ls hC hZ hW hR hlo hls
  exact lv_ifnullN hC.1 hC.2.1 d ht (k p e s m args below meth c r0 r H locs ls hC hZ hW hR hlo hls)
theorem V_tabOut (t : Nat) {dflt lo hi : Int} {offs : Array Int} {len : Nat} {x : Int32} (d : decode cc pc = .ok (.tableswitch dflt lo hi offs, len)) (h : x.toInt < lo ∨ hi < x.toInt) (ht : (pc : Int) + dflt = (t : Int)) (k : V l G y cc nL ret R mc ms Z post L M cells slots lv t st) : V l G y cc nL ret R mc ms Z post L M cells slots lv pc (.int x :: st) := by
  intro p e s m args below meth c r0 r H locs ls hC hZ hW hR hlo hls
  exact lv_tableOut hC.1 hC.2.1 d h ht (k p e s m args below meth c r0 r H locs ls hC hZ hW hR hlo hls)
theorem V_tabIn (t : Nat) {dflt lo hi : Int} {offs : Array Int} {len : Nat} {x : Int32} {off : Int} (d : decode cc pc = .ok (.tableswitch dflt lo hi offs, len)) (h1 : ¬ x.toInt < lo) (h2 : ¬ hi < x.toInt) (ho : offs[(x.toInt - lo).toNat]? = some off) (ht : (pc : Int) + off = (t : Int)) (k : V l G y cc nL ret R mc ms Z post L M cells slots lv t st) : V l G y cc nL ret R mc ms Z post L M cells slots lv pc (.int x :: st) := by
  intro p e s m args below meth c r0 r H locs ls hC hZ hW hR hlo hls
  exact lv_tableIn hC.1 hC.2.1 d h1 h2 ho ht (k p e s m args below meth c r0 r H locs ls hC hZ hW hR hlo hls)
theorem V_il0 (q : Nat) {t : List (Option Value)} {x : Int32} (d : decode cc pc = .ok (.iload_n 0, 1)) (hq : pc + 1 = q) (k : V l G y cc nL ret R mc ms Z post L M cells slots (some (.int x) :: t) q (.int x :: st)) : V l G y cc nL ret R mc ms Z post L M cells slots (some (.int x) :: t) pc (st) := by
  subst hq
  intro p e s m args below meth c r0 r H locs ls hC hZ hW hR hlo hls
  exact lv_iload_n hC.1 hC.2.1 d rfl (hls.at (i := 0) rfl) (k p e s m args below meth c r0 r H locs ls hC hZ hW hR hlo hls)
theorem V_al0 (q : Nat) {t : List (Option Value)} {x : Nat} (d : decode cc pc = .ok (.aload_n 0, 1)) (hq : pc + 1 = q) (k : V l G y cc nL ret R mc ms Z post L M cells slots (some (.ref x) :: t) q (.ref x :: st)) : V l G y cc nL ret R mc ms Z post L M cells slots (some (.ref x) :: t) pc (st) := by
  subst hq
  intro p e s m args below meth c r0 r H locs ls hC hZ hW hR hlo hls
  exact lv_aload_n hC.1 hC.2.1 d rfl (hls.at (i := 0) rfl) (k p e s m args below meth c r0 r H locs ls hC hZ hW hR hlo hls)
theorem V_an0 (q : Nat) {t : List (Option Value)}  (d : decode cc pc = .ok (.aload_n 0, 1)) (hq : pc + 1 = q) (k : V l G y cc nL ret R mc ms Z post L M cells slots (some (.null) :: t) q (.null :: st)) : V l G y cc nL ret R mc ms Z post L M cells slots (some (.null) :: t) pc (st) := by
  subst hq
  intro p e s m args below meth c r0 r H locs ls hC hZ hW hR hlo hls
  exact lv_aload_nN hC.1 hC.2.1 d rfl (hls.at (i := 0) rfl) (k p e s m args below meth c r0 r H locs ls hC hZ hW hR hlo hls)
theorem V_is0 (q : Nat) {b : Option Value} {t : List (Option Value)} {x : Int32} (d : decode cc pc = .ok (.istore_n 0, 1)) (hn : 0 < nL) (hq : pc + 1 = q) (k : V l G y cc nL ret R mc ms Z post L M cells slots (some (.int x) :: t) q st) : V l G y cc nL ret R mc ms Z post L M cells slots (b :: t) pc (.int x :: st) := by
  subst hq
  intro p e s m args below meth c r0 r H locs ls hC hZ hW hR hlo hls
  exact lv_istore_n hC.1 hC.2.1 d rfl hls.1 hn rfl (fun ls' h' => k p e s m args below meth c r0 r H locs ls' hC hZ hW hR hlo (gH.set (i := 0) (v := .int x) hls.2 rfl h'))
theorem V_as0 (q : Nat) {b : Option Value} {t : List (Option Value)} {x : Nat} (d : decode cc pc = .ok (.astore_n 0, 1)) (hn : 0 < nL) (hq : pc + 1 = q) (k : V l G y cc nL ret R mc ms Z post L M cells slots (some (.ref x) :: t) q st) : V l G y cc nL ret R mc ms Z post L M cells slots (b :: t) pc (.ref x :: st) := by
  subst hq
  intro p e s m args below meth c r0 r H locs ls hC hZ hW hR hlo hls
  exact lv_astore_n hC.1 hC.2.1 d rfl hls.1 hn rfl (fun ls' h' => k p e s m args below meth c r0 r H locs ls' hC hZ hW hR hlo (gH.set (i := 0) (v := .ref x) hls.2 rfl h'))
theorem V_az0 (q : Nat) {b : Option Value} {t : List (Option Value)}  (d : decode cc pc = .ok (.astore_n 0, 1)) (hn : 0 < nL) (hq : pc + 1 = q) (k : V l G y cc nL ret R mc ms Z post L M cells slots (some (.null) :: t) q st) : V l G y cc nL ret R mc ms Z post L M cells slots (b :: t) pc (.null :: st) := by
  subst hq
  intro p e s m args below meth c r0 r H locs ls hC hZ hW hR hlo hls
  exact lv_astore_nN hC.1 hC.2.1 d rfl hls.1 hn rfl (fun ls' h' => k p e s m args below meth c r0 r H locs ls' hC hZ hW hR hlo (gH.set (i := 0) (v := .null) hls.2 rfl h'))
theorem V_ii0 (q : Nat) {t : List (Option Value)} {x v : Int32} {n : Int} (d : decode cc pc = .ok (.iinc 0 n, 3)) (hn : 0 < nL) (hv : Int32.ofInt n = v) (hq : pc + 3 = q) (k : V l G y cc nL ret R mc ms Z post L M cells slots (some (.int (x + v)) :: t) q st) : V l G y cc nL ret R mc ms Z post L M cells slots (some (.int x) :: t) pc st := by
  subst hq
  subst hv
  intro p e s m args below meth c r0 r H locs ls hC hZ hW hR hlo hls
  obtain ⟨k9, hk9⟩ := List.getElem?_of_mem (gP_mem.mpr ⟨.int x, rfl, rfl⟩ : (0, Value.int x) ∈ gP r (some (.int x) :: t))
  exact lv_iinc hC.1 hC.2.1 d hls.1 hk9 rfl hn rfl (fun ls' h' => k p e s m args below meth c r0 r H locs ls' hC hZ hW hR hlo (gH.set (i := 0) (v := .int (x + Int32.ofInt n)) hls.2 rfl h'))
theorem V_il1 (q : Nat) {a0 : Option Value} {t : List (Option Value)} {x : Int32} (d : decode cc pc = .ok (.iload_n 1, 1)) (hq : pc + 1 = q) (k : V l G y cc nL ret R mc ms Z post L M cells slots (a0 :: some (.int x) :: t) q (.int x :: st)) : V l G y cc nL ret R mc ms Z post L M cells slots (a0 :: some (.int x) :: t) pc (st) := by
  subst hq
  intro p e s m args below meth c r0 r H locs ls hC hZ hW hR hlo hls
  exact lv_iload_n hC.1 hC.2.1 d rfl (hls.at (i := 1) rfl) (k p e s m args below meth c r0 r H locs ls hC hZ hW hR hlo hls)
theorem V_al1 (q : Nat) {a0 : Option Value} {t : List (Option Value)} {x : Nat} (d : decode cc pc = .ok (.aload_n 1, 1)) (hq : pc + 1 = q) (k : V l G y cc nL ret R mc ms Z post L M cells slots (a0 :: some (.ref x) :: t) q (.ref x :: st)) : V l G y cc nL ret R mc ms Z post L M cells slots (a0 :: some (.ref x) :: t) pc (st) := by
  subst hq
  intro p e s m args below meth c r0 r H locs ls hC hZ hW hR hlo hls
  exact lv_aload_n hC.1 hC.2.1 d rfl (hls.at (i := 1) rfl) (k p e s m args below meth c r0 r H locs ls hC hZ hW hR hlo hls)
theorem V_an1 (q : Nat) {a0 : Option Value} {t : List (Option Value)}  (d : decode cc pc = .ok (.aload_n 1, 1)) (hq : pc + 1 = q) (k : V l G y cc nL ret R mc ms Z post L M cells slots (a0 :: some (.null) :: t) q (.null :: st)) : V l G y cc nL ret R mc ms Z post L M cells slots (a0 :: some (.null) :: t) pc (st) := by
  subst hq
  intro p e s m args below meth c r0 r H locs ls hC hZ hW hR hlo hls
  exact lv_aload_nN hC.1 hC.2.1 d rfl (hls.at (i := 1) rfl) (k p e s m args below meth c r0 r H locs ls hC hZ hW hR hlo hls)
theorem V_is1 (q : Nat) {a0 b : Option Value} {t : List (Option Value)} {x : Int32} (d : decode cc pc = .ok (.istore_n 1, 1)) (hn : 1 < nL) (hq : pc + 1 = q) (k : V l G y cc nL ret R mc ms Z post L M cells slots (a0 :: some (.int x) :: t) q st) : V l G y cc nL ret R mc ms Z post L M cells slots (a0 :: b :: t) pc (.int x :: st) := by
  subst hq
  intro p e s m args below meth c r0 r H locs ls hC hZ hW hR hlo hls
  exact lv_istore_n hC.1 hC.2.1 d rfl hls.1 hn rfl (fun ls' h' => k p e s m args below meth c r0 r H locs ls' hC hZ hW hR hlo (gH.set (i := 1) (v := .int x) hls.2 rfl h'))
theorem V_as1 (q : Nat) {a0 b : Option Value} {t : List (Option Value)} {x : Nat} (d : decode cc pc = .ok (.astore_n 1, 1)) (hn : 1 < nL) (hq : pc + 1 = q) (k : V l G y cc nL ret R mc ms Z post L M cells slots (a0 :: some (.ref x) :: t) q st) : V l G y cc nL ret R mc ms Z post L M cells slots (a0 :: b :: t) pc (.ref x :: st) := by
  subst hq
  intro p e s m args below meth c r0 r H locs ls hC hZ hW hR hlo hls
  exact lv_astore_n hC.1 hC.2.1 d rfl hls.1 hn rfl (fun ls' h' => k p e s m args below meth c r0 r H locs ls' hC hZ hW hR hlo (gH.set (i := 1) (v := .ref x) hls.2 rfl h'))
theorem V_az1 (q : Nat) {a0 b : Option Value} {t : List (Option Value)}  (d : decode cc pc = .ok (.astore_n 1, 1)) (hn : 1 < nL) (hq : pc + 1 = q) (k : V l G y cc nL ret R mc ms Z post L M cells slots (a0 :: some (.null) :: t) q st) : V l G y cc nL ret R mc ms Z post L M cells slots (a0 :: b :: t) pc (.null :: st) := by
  subst hq
  intro p e s m args below meth c r0 r H locs ls hC hZ hW hR hlo hls
  exact lv_astore_nN hC.1 hC.2.1 d rfl hls.1 hn rfl (fun ls' h' => k p e s m args below meth c r0 r H locs ls' hC hZ hW hR hlo (gH.set (i := 1) (v := .null) hls.2 rfl h'))
theorem V_ii1 (q : Nat) {a0 : Option Value} {t : List (Option Value)} {x v : Int32} {n : Int} (d : decode cc pc = .ok (.iinc 1 n, 3)) (hn : 1 < nL) (hv : Int32.ofInt n = v) (hq : pc + 3 = q) (k : V l G y cc nL ret R mc ms Z post L M cells slots (a0 :: some (.int (x + v)) :: t) q st) : V l G y cc nL ret R mc ms Z post L M cells slots (a0 :: some (.int x) :: t) pc st := by
  subst hq
  subst hv
  intro p e s m args below meth c r0 r H locs ls hC hZ hW hR hlo hls
  obtain ⟨k9, hk9⟩ := List.getElem?_of_mem (gP_mem.mpr ⟨.int x, rfl, rfl⟩ : (1, Value.int x) ∈ gP r (a0 :: some (.int x) :: t))
  exact lv_iinc hC.1 hC.2.1 d hls.1 hk9 rfl hn rfl (fun ls' h' => k p e s m args below meth c r0 r H locs ls' hC hZ hW hR hlo (gH.set (i := 1) (v := .int (x + Int32.ofInt n)) hls.2 rfl h'))
theorem V_il2 (q : Nat) {a0 a1 : Option Value} {t : List (Option Value)} {x : Int32} (d : decode cc pc = .ok (.iload_n 2, 1)) (hq : pc + 1 = q) (k : V l G y cc nL ret R mc ms Z post L M cells slots (a0 :: a1 :: some (.int x) :: t) q (.int x :: st)) : V l G y cc nL ret R mc ms Z post L M cells slots (a0 :: a1 :: some (.int x) :: t) pc (st) := by
  subst hq
  intro p e s m args below meth c r0 r H locs ls hC hZ hW hR hlo hls
  exact lv_iload_n hC.1 hC.2.1 d rfl (hls.at (i := 2) rfl) (k p e s m args below meth c r0 r H locs ls hC hZ hW hR hlo hls)
theorem V_al2 (q : Nat) {a0 a1 : Option Value} {t : List (Option Value)} {x : Nat} (d : decode cc pc = .ok (.aload_n 2, 1)) (hq : pc + 1 = q) (k : V l G y cc nL ret R mc ms Z post L M cells slots (a0 :: a1 :: some (.ref x) :: t) q (.ref x :: st)) : V l G y cc nL ret R mc ms Z post L M cells slots (a0 :: a1 :: some (.ref x) :: t) pc (st) := by
  subst hq
  intro p e s m args below meth c r0 r H locs ls hC hZ hW hR hlo hls
  exact lv_aload_n hC.1 hC.2.1 d rfl (hls.at (i := 2) rfl) (k p e s m args below meth c r0 r H locs ls hC hZ hW hR hlo hls)
theorem V_an2 (q : Nat) {a0 a1 : Option Value} {t : List (Option Value)}  (d : decode cc pc = .ok (.aload_n 2, 1)) (hq : pc + 1 = q) (k : V l G y cc nL ret R mc ms Z post L M cells slots (a0 :: a1 :: some (.null) :: t) q (.null :: st)) : V l G y cc nL ret R mc ms Z post L M cells slots (a0 :: a1 :: some (.null) :: t) pc (st) := by
  subst hq
  intro p e s m args below meth c r0 r H locs ls hC hZ hW hR hlo hls
  exact lv_aload_nN hC.1 hC.2.1 d rfl (hls.at (i := 2) rfl) (k p e s m args below meth c r0 r H locs ls hC hZ hW hR hlo hls)
theorem V_is2 (q : Nat) {a0 a1 b : Option Value} {t : List (Option Value)} {x : Int32} (d : decode cc pc = .ok (.istore_n 2, 1)) (hn : 2 < nL) (hq : pc + 1 = q) (k : V l G y cc nL ret R mc ms Z post L M cells slots (a0 :: a1 :: some (.int x) :: t) q st) : V l G y cc nL ret R mc ms Z post L M cells slots (a0 :: a1 :: b :: t) pc (.int x :: st) := by
  subst hq
  intro p e s m args below meth c r0 r H locs ls hC hZ hW hR hlo hls
  exact lv_istore_n hC.1 hC.2.1 d rfl hls.1 hn rfl (fun ls' h' => k p e s m args below meth c r0 r H locs ls' hC hZ hW hR hlo (gH.set (i := 2) (v := .int x) hls.2 rfl h'))
theorem V_as2 (q : Nat) {a0 a1 b : Option Value} {t : List (Option Value)} {x : Nat} (d : decode cc pc = .ok (.astore_n 2, 1)) (hn : 2 < nL) (hq : pc + 1 = q) (k : V l G y cc nL ret R mc ms Z post L M cells slots (a0 :: a1 :: some (.ref x) :: t) q st) : V l G y cc nL ret R mc ms Z post L M cells slots (a0 :: a1 :: b :: t) pc (.ref x :: st) := by
  subst hq
  intro p e s m args below meth c r0 r H locs ls hC hZ hW hR hlo hls
  exact lv_astore_n hC.1 hC.2.1 d rfl hls.1 hn rfl (fun ls' h' => k p e s m args below meth c r0 r H locs ls' hC hZ hW hR hlo (gH.set (i := 2) (v := .ref x) hls.2 rfl h'))
theorem V_az2 (q : Nat) {a0 a1 b : Option Value} {t : List (Option Value)}  (d : decode cc pc = .ok (.astore_n 2, 1)) (hn : 2 < nL) (hq : pc + 1 = q) (k : V l G y cc nL ret R mc ms Z post L M cells slots (a0 :: a1 :: some (.null) :: t) q st) : V l G y cc nL ret R mc ms Z post L M cells slots (a0 :: a1 :: b :: t) pc (.null :: st) := by
  subst hq
  intro p e s m args below meth c r0 r H locs ls hC hZ hW hR hlo hls
  exact lv_astore_nN hC.1 hC.2.1 d rfl hls.1 hn rfl (fun ls' h' => k p e s m args below meth c r0 r H locs ls' hC hZ hW hR hlo (gH.set (i := 2) (v := .null) hls.2 rfl h'))
theorem V_ii2 (q : Nat) {a0 a1 : Option Value} {t : List (Option Value)} {x v : Int32} {n : Int} (d : decode cc pc = .ok (.iinc 2 n, 3)) (hn : 2 < nL) (hv : Int32.ofInt n = v) (hq : pc + 3 = q) (k : V l G y cc nL ret R mc ms Z post L M cells slots (a0 :: a1 :: some (.int (x + v)) :: t) q st) : V l G y cc nL ret R mc ms Z post L M cells slots (a0 :: a1 :: some (.int x) :: t) pc st := by
  subst hq
  subst hv
  intro p e s m args below meth c r0 r H locs ls hC hZ hW hR hlo hls
  obtain ⟨k9, hk9⟩ := List.getElem?_of_mem (gP_mem.mpr ⟨.int x, rfl, rfl⟩ : (2, Value.int x) ∈ gP r (a0 :: a1 :: some (.int x) :: t))
  exact lv_iinc hC.1 hC.2.1 d hls.1 hk9 rfl hn rfl (fun ls' h' => k p e s m args below meth c r0 r H locs ls' hC hZ hW hR hlo (gH.set (i := 2) (v := .int (x + Int32.ofInt n)) hls.2 rfl h'))
theorem V_il3 (q : Nat) {a0 a1 a2 : Option Value} {t : List (Option Value)} {x : Int32} (d : decode cc pc = .ok (.iload_n 3, 1)) (hq : pc + 1 = q) (k : V l G y cc nL ret R mc ms Z post L M cells slots (a0 :: a1 :: a2 :: some (.int x) :: t) q (.int x :: st)) : V l G y cc nL ret R mc ms Z post L M cells slots (a0 :: a1 :: a2 :: some (.int x) :: t) pc (st) := by
  subst hq
  intro p e s m args below meth c r0 r H locs ls hC hZ hW hR hlo hls
  exact lv_iload_n hC.1 hC.2.1 d rfl (hls.at (i := 3) rfl) (k p e s m args below meth c r0 r H locs ls hC hZ hW hR hlo hls)
theorem V_al3 (q : Nat) {a0 a1 a2 : Option Value} {t : List (Option Value)} {x : Nat} (d : decode cc pc = .ok (.aload_n 3, 1)) (hq : pc + 1 = q) (k : V l G y cc nL ret R mc ms Z post L M cells slots (a0 :: a1 :: a2 :: some (.ref x) :: t) q (.ref x :: st)) : V l G y cc nL ret R mc ms Z post L M cells slots (a0 :: a1 :: a2 :: some (.ref x) :: t) pc (st) := by
  subst hq
  intro p e s m args below meth c r0 r H locs ls hC hZ hW hR hlo hls
  exact lv_aload_n hC.1 hC.2.1 d rfl (hls.at (i := 3) rfl) (k p e s m args below meth c r0 r H locs ls hC hZ hW hR hlo hls)
theorem V_an3 (q : Nat) {a0 a1 a2 : Option Value} {t : List (Option Value)}  (d : decode cc pc = .ok (.aload_n 3, 1)) (hq : pc + 1 = q) (k : V l G y cc nL ret R mc ms Z post L M cells slots (a0 :: a1 :: a2 :: some (.null) :: t) q (.null :: st)) : V l G y cc nL ret R mc ms Z post L M cells slots (a0 :: a1 :: a2 :: some (.null) :: t) pc (st) := by
  subst hq
  intro p e s m args below meth c r0 r H locs ls hC hZ hW hR hlo hls
  exact lv_aload_nN hC.1 hC.2.1 d rfl (hls.at (i := 3) rfl) (k p e s m args below meth c r0 r H locs ls hC hZ hW hR hlo hls)
theorem V_is3 (q : Nat) {a0 a1 a2 b : Option Value} {t : List (Option Value)} {x : Int32} (d : decode cc pc = .ok (.istore_n 3, 1)) (hn : 3 < nL) (hq : pc + 1 = q) (k : V l G y cc nL ret R mc ms Z post L M cells slots (a0 :: a1 :: a2 :: some (.int x) :: t) q st) : V l G y cc nL ret R mc ms Z post L M cells slots (a0 :: a1 :: a2 :: b :: t) pc (.int x :: st) := by
  subst hq
  intro p e s m args below meth c r0 r H locs ls hC hZ hW hR hlo hls
  exact lv_istore_n hC.1 hC.2.1 d rfl hls.1 hn rfl (fun ls' h' => k p e s m args below meth c r0 r H locs ls' hC hZ hW hR hlo (gH.set (i := 3) (v := .int x) hls.2 rfl h'))
theorem V_as3 (q : Nat) {a0 a1 a2 b : Option Value} {t : List (Option Value)} {x : Nat} (d : decode cc pc = .ok (.astore_n 3, 1)) (hn : 3 < nL) (hq : pc + 1 = q) (k : V l G y cc nL ret R mc ms Z post L M cells slots (a0 :: a1 :: a2 :: some (.ref x) :: t) q st) : V l G y cc nL ret R mc ms Z post L M cells slots (a0 :: a1 :: a2 :: b :: t) pc (.ref x :: st) := by
  subst hq
  intro p e s m args below meth c r0 r H locs ls hC hZ hW hR hlo hls
  exact lv_astore_n hC.1 hC.2.1 d rfl hls.1 hn rfl (fun ls' h' => k p e s m args below meth c r0 r H locs ls' hC hZ hW hR hlo (gH.set (i := 3) (v := .ref x) hls.2 rfl h'))
theorem V_az3 (q : Nat) {a0 a1 a2 b : Option Value} {t : List (Option Value)}  (d : decode cc pc = .ok (.astore_n 3, 1)) (hn : 3 < nL) (hq : pc + 1 = q) (k : V l G y cc nL ret R mc ms Z post L M cells slots (a0 :: a1 :: a2 :: some (.null) :: t) q st) : V l G y cc nL ret R mc ms Z post L M cells slots (a0 :: a1 :: a2 :: b :: t) pc (.null :: st) := by
  subst hq
  intro p e s m args below meth c r0 r H locs ls hC hZ hW hR hlo hls
  exact lv_astore_nN hC.1 hC.2.1 d rfl hls.1 hn rfl (fun ls' h' => k p e s m args below meth c r0 r H locs ls' hC hZ hW hR hlo (gH.set (i := 3) (v := .null) hls.2 rfl h'))
theorem V_ii3 (q : Nat) {a0 a1 a2 : Option Value} {t : List (Option Value)} {x v : Int32} {n : Int} (d : decode cc pc = .ok (.iinc 3 n, 3)) (hn : 3 < nL) (hv : Int32.ofInt n = v) (hq : pc + 3 = q) (k : V l G y cc nL ret R mc ms Z post L M cells slots (a0 :: a1 :: a2 :: some (.int (x + v)) :: t) q st) : V l G y cc nL ret R mc ms Z post L M cells slots (a0 :: a1 :: a2 :: some (.int x) :: t) pc st := by
  subst hq
  subst hv
  intro p e s m args below meth c r0 r H locs ls hC hZ hW hR hlo hls
  obtain ⟨k9, hk9⟩ := List.getElem?_of_mem (gP_mem.mpr ⟨.int x, rfl, rfl⟩ : (3, Value.int x) ∈ gP r (a0 :: a1 :: a2 :: some (.int x) :: t))
  exact lv_iinc hC.1 hC.2.1 d hls.1 hk9 rfl hn rfl (fun ls' h' => k p e s m args below meth c r0 r H locs ls' hC hZ hW hR hlo (gH.set (i := 3) (v := .int (x + Int32.ofInt n)) hls.2 rfl h'))
theorem V_il4 (q : Nat) {a0 a1 a2 a3 : Option Value} {t : List (Option Value)} {x : Int32} (d : decode cc pc = .ok (.iload 4, 2)) (hq : pc + 2 = q) (k : V l G y cc nL ret R mc ms Z post L M cells slots (a0 :: a1 :: a2 :: a3 :: some (.int x) :: t) q (.int x :: st)) : V l G y cc nL ret R mc ms Z post L M cells slots (a0 :: a1 :: a2 :: a3 :: some (.int x) :: t) pc (st) := by
  subst hq
  intro p e s m args below meth c r0 r H locs ls hC hZ hW hR hlo hls
  exact lv_iload hC.1 hC.2.1 d (hls.at (i := 4) rfl) (k p e s m args below meth c r0 r H locs ls hC hZ hW hR hlo hls)
theorem V_al4 (q : Nat) {a0 a1 a2 a3 : Option Value} {t : List (Option Value)} {x : Nat} (d : decode cc pc = .ok (.aload 4, 2)) (hq : pc + 2 = q) (k : V l G y cc nL ret R mc ms Z post L M cells slots (a0 :: a1 :: a2 :: a3 :: some (.ref x) :: t) q (.ref x :: st)) : V l G y cc nL ret R mc ms Z post L M cells slots (a0 :: a1 :: a2 :: a3 :: some (.ref x) :: t) pc (st) := by
  subst hq
  intro p e s m args below meth c r0 r H locs ls hC hZ hW hR hlo hls
  exact lv_aload hC.1 hC.2.1 d (hls.at (i := 4) rfl) (k p e s m args below meth c r0 r H locs ls hC hZ hW hR hlo hls)
theorem V_an4 (q : Nat) {a0 a1 a2 a3 : Option Value} {t : List (Option Value)}  (d : decode cc pc = .ok (.aload 4, 2)) (hq : pc + 2 = q) (k : V l G y cc nL ret R mc ms Z post L M cells slots (a0 :: a1 :: a2 :: a3 :: some (.null) :: t) q (.null :: st)) : V l G y cc nL ret R mc ms Z post L M cells slots (a0 :: a1 :: a2 :: a3 :: some (.null) :: t) pc (st) := by
  subst hq
  intro p e s m args below meth c r0 r H locs ls hC hZ hW hR hlo hls
  exact lv_aloadN hC.1 hC.2.1 d (hls.at (i := 4) rfl) (k p e s m args below meth c r0 r H locs ls hC hZ hW hR hlo hls)
theorem V_is4 (q : Nat) {a0 a1 a2 a3 b : Option Value} {t : List (Option Value)} {x : Int32} (d : decode cc pc = .ok (.istore 4, 2)) (hn : 4 < nL) (hq : pc + 2 = q) (k : V l G y cc nL ret R mc ms Z post L M cells slots (a0 :: a1 :: a2 :: a3 :: some (.int x) :: t) q st) : V l G y cc nL ret R mc ms Z post L M cells slots (a0 :: a1 :: a2 :: a3 :: b :: t) pc (.int x :: st) := by
  subst hq
  intro p e s m args below meth c r0 r H locs ls hC hZ hW hR hlo hls
  exact lv_istore hC.1 hC.2.1 d hls.1 hn rfl (fun ls' h' => k p e s m args below meth c r0 r H locs ls' hC hZ hW hR hlo (gH.set (i := 4) (v := .int x) hls.2 rfl h'))
theorem V_as4 (q : Nat) {a0 a1 a2 a3 b : Option Value} {t : List (Option Value)} {x : Nat} (d : decode cc pc = .ok (.astore 4, 2)) (hn : 4 < nL) (hq : pc + 2 = q) (k : V l G y cc nL ret R mc ms Z post L M cells slots (a0 :: a1 :: a2 :: a3 :: some (.ref x) :: t) q st) : V l G y cc nL ret R mc ms Z post L M cells slots (a0 :: a1 :: a2 :: a3 :: b :: t) pc (.ref x :: st) := by
  subst hq
  intro p e s m args below meth c r0 r H locs ls hC hZ hW hR hlo hls
  exact lv_astore hC.1 hC.2.1 d hls.1 hn rfl (fun ls' h' => k p e s m args below meth c r0 r H locs ls' hC hZ hW hR hlo (gH.set (i := 4) (v := .ref x) hls.2 rfl h'))
theorem V_az4 (q : Nat) {a0 a1 a2 a3 b : Option Value} {t : List (Option Value)}  (d : decode cc pc = .ok (.astore 4, 2)) (hn : 4 < nL) (hq : pc + 2 = q) (k : V l G y cc nL ret R mc ms Z post L M cells slots (a0 :: a1 :: a2 :: a3 :: some (.null) :: t) q st) : V l G y cc nL ret R mc ms Z post L M cells slots (a0 :: a1 :: a2 :: a3 :: b :: t) pc (.null :: st) := by
  subst hq
  intro p e s m args below meth c r0 r H locs ls hC hZ hW hR hlo hls
  exact lv_astoreN hC.1 hC.2.1 d hls.1 hn rfl (fun ls' h' => k p e s m args below meth c r0 r H locs ls' hC hZ hW hR hlo (gH.set (i := 4) (v := .null) hls.2 rfl h'))
theorem V_ii4 (q : Nat) {a0 a1 a2 a3 : Option Value} {t : List (Option Value)} {x v : Int32} {n : Int} (d : decode cc pc = .ok (.iinc 4 n, 3)) (hn : 4 < nL) (hv : Int32.ofInt n = v) (hq : pc + 3 = q) (k : V l G y cc nL ret R mc ms Z post L M cells slots (a0 :: a1 :: a2 :: a3 :: some (.int (x + v)) :: t) q st) : V l G y cc nL ret R mc ms Z post L M cells slots (a0 :: a1 :: a2 :: a3 :: some (.int x) :: t) pc st := by
  subst hq
  subst hv
  intro p e s m args below meth c r0 r H locs ls hC hZ hW hR hlo hls
  obtain ⟨k9, hk9⟩ := List.getElem?_of_mem (gP_mem.mpr ⟨.int x, rfl, rfl⟩ : (4, Value.int x) ∈ gP r (a0 :: a1 :: a2 :: a3 :: some (.int x) :: t))
  exact lv_iinc hC.1 hC.2.1 d hls.1 hk9 rfl hn rfl (fun ls' h' => k p e s m args below meth c r0 r H locs ls' hC hZ hW hR hlo (gH.set (i := 4) (v := .int (x + Int32.ofInt n)) hls.2 rfl h'))
theorem V_il5 (q : Nat) {a0 a1 a2 a3 a4 : Option Value} {t : List (Option Value)} {x : Int32} (d : decode cc pc = .ok (.iload 5, 2)) (hq : pc + 2 = q) (k : V l G y cc nL ret R mc ms Z post L M cells slots (a0 :: a1 :: a2 :: a3 :: a4 :: some (.int x) :: t) q (.int x :: st)) : V l G y cc nL ret R mc ms Z post L M cells slots (a0 :: a1 :: a2 :: a3 :: a4 :: some (.int x) :: t) pc (st) := by
  subst hq
  intro p e s m args below meth c r0 r H locs ls hC hZ hW hR hlo hls
  exact lv_iload hC.1 hC.2.1 d (hls.at (i := 5) rfl) (k p e s m args below meth c r0 r H locs ls hC hZ hW hR hlo hls)
theorem V_al5 (q : Nat) {a0 a1 a2 a3 a4 : Option Value} {t : List (Option Value)} {x : Nat} (d : decode cc pc = .ok (.aload 5, 2)) (hq : pc + 2 = q) (k : V l G y cc nL ret R mc ms Z post L M cells slots (a0 :: a1 :: a2 :: a3 :: a4 :: some (.ref x) :: t) q (.ref x :: st)) : V l G y cc nL ret R mc ms Z post L M cells slots (a0 :: a1 :: a2 :: a3 :: a4 :: some (.ref x) :: t) pc (st) := by
  subst hq
  intro p e s m args below meth c r0 r H locs ls hC hZ hW hR hlo hls
  exact lv_aload hC.1 hC.2.1 d (hls.at (i := 5) rfl) (k p e s m args below meth c r0 r H locs ls hC hZ hW hR hlo hls)
theorem V_an5 (q : Nat) {a0 a1 a2 a3 a4 : Option Value} {t : List (Option Value)}  (d : decode cc pc = .ok (.aload 5, 2)) (hq : pc + 2 = q) (k : V l G y cc nL ret R mc ms Z post L M cells slots (a0 :: a1 :: a2 :: a3 :: a4 :: some (.null) :: t) q (.null :: st)) : V l G y cc nL ret R mc ms Z post L M cells slots (a0 :: a1 :: a2 :: a3 :: a4 :: some (.null) :: t) pc (st) := by
  subst hq
  intro p e s m args below meth c r0 r H locs ls hC hZ hW hR hlo hls
  exact lv_aloadN hC.1 hC.2.1 d (hls.at (i := 5) rfl) (k p e s m args below meth c r0 r H locs ls hC hZ hW hR hlo hls)
theorem V_is5 (q : Nat) {a0 a1 a2 a3 a4 b : Option Value} {t : List (Option Value)} {x : Int32} (d : decode cc pc = .ok (.istore 5, 2)) (hn : 5 < nL) (hq : pc + 2 = q) (k : V l G y cc nL ret R mc ms Z post L M cells slots (a0 :: a1 :: a2 :: a3 :: a4 :: some (.int x) :: t) q st) : V l G y cc nL ret R mc ms Z post L M cells slots (a0 :: a1 :: a2 :: a3 :: a4 :: b :: t) pc (.int x :: st) := by
  subst hq
  intro p e s m args below meth c r0 r H locs ls hC hZ hW hR hlo hls
  exact lv_istore hC.1 hC.2.1 d hls.1 hn rfl (fun ls' h' => k p e s m args below meth c r0 r H locs ls' hC hZ hW hR hlo (gH.set (i := 5) (v := .int x) hls.2 rfl h'))
theorem V_as5 (q : Nat) {a0 a1 a2 a3 a4 b : Option Value} {t : List (Option Value)} {x : Nat} (d : decode cc pc = .ok (.astore 5, 2)) (hn : 5 < nL) (hq : pc + 2 = q) (k : V l G y cc nL ret R mc ms Z post L M cells slots (a0 :: a1 :: a2 :: a3 :: a4 :: some (.ref x) :: t) q st) : V l G y cc nL ret R mc ms Z post L M cells slots (a0 :: a1 :: a2 :: a3 :: a4 :: b :: t) pc (.ref x :: st) := by
  subst hq
  intro p e s m args below meth c r0 r H locs ls hC hZ hW hR hlo hls
  exact lv_astore hC.1 hC.2.1 d hls.1 hn rfl (fun ls' h' => k p e s m args below meth c r0 r H locs ls' hC hZ hW hR hlo (gH.set (i := 5) (v := .ref x) hls.2 rfl h'))
theorem V_az5 (q : Nat) {a0 a1 a2 a3 a4 b : Option Value} {t : List (Option Value)}  (d : decode cc pc = .ok (.astore 5, 2)) (hn : 5 < nL) (hq : pc + 2 = q) (k : V l G y cc nL ret R mc ms Z post L M cells slots (a0 :: a1 :: a2 :: a3 :: a4 :: some (.null) :: t) q st) : V l G y cc nL ret R mc ms Z post L M cells slots (a0 :: a1 :: a2 :: a3 :: a4 :: b :: t) pc (.null :: st) := by
  subst hq
  intro p e s m args below meth c r0 r H locs ls hC hZ hW hR hlo hls
  exact lv_astoreN hC.1 hC.2.1 d hls.1 hn rfl (fun ls' h' => k p e s m args below meth c r0 r H locs ls' hC hZ hW hR hlo (gH.set (i := 5) (v := .null) hls.2 rfl h'))
theorem V_ii5 (q : Nat) {a0 a1 a2 a3 a4 : Option Value} {t : List (Option Value)} {x v : Int32} {n : Int} (d : decode cc pc = .ok (.iinc 5 n, 3)) (hn : 5 < nL) (hv : Int32.ofInt n = v) (hq : pc + 3 = q) (k : V l G y cc nL ret R mc ms Z post L M cells slots (a0 :: a1 :: a2 :: a3 :: a4 :: some (.int (x + v)) :: t) q st) : V l G y cc nL ret R mc ms Z post L M cells slots (a0 :: a1 :: a2 :: a3 :: a4 :: some (.int x) :: t) pc st := by
  subst hq
  subst hv
  intro p e s m args below meth c r0 r H locs ls hC hZ hW hR hlo hls
  obtain ⟨k9, hk9⟩ := List.getElem?_of_mem (gP_mem.mpr ⟨.int x, rfl, rfl⟩ : (5, Value.int x) ∈ gP r (a0 :: a1 :: a2 :: a3 :: a4 :: some (.int x) :: t))
  exact lv_iinc hC.1 hC.2.1 d hls.1 hk9 rfl hn rfl (fun ls' h' => k p e s m args below meth c r0 r H locs ls' hC hZ hW hR hlo (gH.set (i := 5) (v := .int (x + Int32.ofInt n)) hls.2 rfl h'))
theorem V_il6 (q : Nat) {a0 a1 a2 a3 a4 a5 : Option Value} {t : List (Option Value)} {x : Int32} (d : decode cc pc = .ok (.iload 6, 2)) (hq : pc + 2 = q) (k : V l G y cc nL ret R mc ms Z post L M cells slots (a0 :: a1 :: a2 :: a3 :: a4 :: a5 :: some (.int x) :: t) q (.int x :: st)) : V l G y cc nL ret R mc ms Z post L M cells slots (a0 :: a1 :: a2 :: a3 :: a4 :: a5 :: some (.int x) :: t) pc (st) := by
  subst hq
  intro p e s m args below meth c r0 r H locs ls hC hZ hW hR hlo hls
  exact lv_iload hC.1 hC.2.1 d (hls.at (i := 6) rfl) (k p e s m args below meth c r0 r H locs ls hC hZ hW hR hlo hls)
theorem V_al6 (q : Nat) {a0 a1 a2 a3 a4 a5 : Option Value} {t : List (Option Value)} {x : Nat} (d : decode cc pc = .ok (.aload 6, 2)) (hq : pc + 2 = q) (k : V l G y cc nL ret R mc ms Z post L M cells slots (a0 :: a1 :: a2 :: a3 :: a4 :: a5 :: some (.ref x) :: t) q (.ref x :: st)) : V l G y cc nL ret R mc ms Z post L M cells slots (a0 :: a1 :: a2 :: a3 :: a4 :: a5 :: some (.ref x) :: t) pc (st) := by
  subst hq
  intro p e s m args below meth c r0 r H locs ls hC hZ hW hR hlo hls
  exact lv_aload hC.1 hC.2.1 d (hls.at (i := 6) rfl) (k p e s m args below meth c r0 r H locs ls hC hZ hW hR hlo hls)
theorem V_an6 (q : Nat) {a0 a1 a2 a3 a4 a5 : Option Value} {t : List (Option Value)}  (d : decode cc pc = .ok (.aload 6, 2)) (hq : pc + 2 = q) (k : V l G y cc nL ret R mc ms Z post L M cells slots (a0 :: a1 :: a2 :: a3 :: a4 :: a5 :: some (.null) :: t) q (.null :: st)) : V l G y cc nL ret R mc ms Z post L M cells slots (a0 :: a1 :: a2 :: a3 :: a4 :: a5 :: some (.null) :: t) pc (st) := by
  subst hq
  intro p e s m args below meth c r0 r H locs ls hC hZ hW hR hlo hls
  exact lv_aloadN hC.1 hC.2.1 d (hls.at (i := 6) rfl) (k p e s m args below meth c r0 r H locs ls hC hZ hW hR hlo hls)
theorem V_is6 (q : Nat) {a0 a1 a2 a3 a4 a5 b : Option Value} {t : List (Option Value)} {x : Int32} (d : decode cc pc = .ok (.istore 6, 2)) (hn : 6 < nL) (hq : pc + 2 = q) (k : V l G y cc nL ret R mc ms Z post L M cells slots (a0 :: a1 :: a2 :: a3 :: a4 :: a5 :: some (.int x) :: t) q st) : V l G y cc nL ret R mc ms Z post L M cells slots (a0 :: a1 :: a2 :: a3 :: a4 :: a5 :: b :: t) pc (.int x :: st) := by
  subst hq
  intro p e s m args below meth c r0 r H locs ls hC hZ hW hR hlo hls
  exact lv_istore hC.1 hC.2.1 d hls.1 hn rfl (fun ls' h' => k p e s m args below meth c r0 r H locs ls' hC hZ hW hR hlo (gH.set (i := 6) (v := .int x) hls.2 rfl h'))
theorem V_as6 (q : Nat) {a0 a1 a2 a3 a4 a5 b : Option Value} {t : List (Option Value)} {x : Nat} (d : decode cc pc = .ok (.astore 6, 2)) (hn : 6 < nL) (hq : pc + 2 = q) (k : V l G y cc nL ret R mc ms Z post L M cells slots (a0 :: a1 :: a2 :: a3 :: a4 :: a5 :: some (.ref x) :: t) q st) : V l G y cc nL ret R mc ms Z post L M cells slots (a0 :: a1 :: a2 :: a3 :: a4 :: a5 :: b :: t) pc (.ref x :: st) := by
  subst hq
  intro p e s m args below meth c r0 r H locs ls hC hZ hW hR hlo hls
  exact lv_astore hC.1 hC.2.1 d hls.1 hn rfl (fun ls' h' => k p e s m args below meth c r0 r H locs ls' hC hZ hW hR hlo (gH.set (i := 6) (v := .ref x) hls.2 rfl h'))
theorem V_az6 (q : Nat) {a0 a1 a2 a3 a4 a5 b : Option Value} {t : List (Option Value)}  (d : decode cc pc = .ok (.astore 6, 2)) (hn : 6 < nL) (hq : pc + 2 = q) (k : V l G y cc nL ret R mc ms Z post L M cells slots (a0 :: a1 :: a2 :: a3 :: a4 :: a5 :: some (.null) :: t) q st) : V l G y cc nL ret R mc ms Z post L M cells slots (a0 :: a1 :: a2 :: a3 :: a4 :: a5 :: b :: t) pc (.null :: st) := by
  subst hq
  intro p e s m args below meth c r0 r H locs ls hC hZ hW hR hlo hls
  exact lv_astoreN hC.1 hC.2.1 d hls.1 hn rfl (fun ls' h' => k p e s m args below meth c r0 r H locs ls' hC hZ hW hR hlo (gH.set (i := 6) (v := .null) hls.2 rfl h'))
theorem V_ii6 (q : Nat) {a0 a1 a2 a3 a4 a5 : Option Value} {t : List (Option Value)} {x v : Int32} {n : Int} (d : decode cc pc = .ok (.iinc 6 n, 3)) (hn : 6 < nL) (hv : Int32.ofInt n = v) (hq : pc + 3 = q) (k : V l G y cc nL ret R mc ms Z post L M cells slots (a0 :: a1 :: a2 :: a3 :: a4 :: a5 :: some (.int (x + v)) :: t) q st) : V l G y cc nL ret R mc ms Z post L M cells slots (a0 :: a1 :: a2 :: a3 :: a4 :: a5 :: some (.int x) :: t) pc st := by
  subst hq
  subst hv
  intro p e s m args below meth c r0 r H locs ls hC hZ hW hR hlo hls
  obtain ⟨k9, hk9⟩ := List.getElem?_of_mem (gP_mem.mpr ⟨.int x, rfl, rfl⟩ : (6, Value.int x) ∈ gP r (a0 :: a1 :: a2 :: a3 :: a4 :: a5 :: some (.int x) :: t))
  exact lv_iinc hC.1 hC.2.1 d hls.1 hk9 rfl hn rfl (fun ls' h' => k p e s m args below meth c r0 r H locs ls' hC hZ hW hR hlo (gH.set (i := 6) (v := .int (x + Int32.ofInt n)) hls.2 rfl h'))
theorem V_il7 (q : Nat) {a0 a1 a2 a3 a4 a5 a6 : Option Value} {t : List (Option Value)} {x : Int32} (d : decode cc pc = .ok (.iload 7, 2)) (hq : pc + 2 = q) (k : V l G y cc nL ret R mc ms Z post L M cells slots (a0 :: a1 :: a2 :: a3 :: a4 :: a5 :: a6 :: some (.int x) :: t) q (.int x :: st)) : V l G y cc nL ret R mc ms Z post L M cells slots (a0 :: a1 :: a2 :: a3 :: a4 :: a5 :: a6 :: some (.int x) :: t) pc (st) := by
  subst hq
  intro p e s m args below meth c r0 r H locs ls hC hZ hW hR hlo hls
  exact lv_iload hC.1 hC.2.1 d (hls.at (i := 7) rfl) (k p e s m args below meth c r0 r H locs ls hC hZ hW hR hlo hls)
theorem V_al7 (q : Nat) {a0 a1 a2 a3 a4 a5 a6 : Option Value} {t : List (Option Value)} {x : Nat} (d : decode cc pc = .ok (.aload 7, 2)) (hq : pc + 2 = q) (k : V l G y cc nL ret R mc ms Z post L M cells slots (a0 :: a1 :: a2 :: a3 :: a4 :: a5 :: a6 :: some (.ref x) :: t) q (.ref x :: st)) : V l G y cc nL ret R mc ms Z post L M cells slots (a0 :: a1 :: a2 :: a3 :: a4 :: a5 :: a6 :: some (.ref x) :: t) pc (st) := by
  subst hq
  intro p e s m args below meth c r0 r H locs ls hC hZ hW hR hlo hls
  exact lv_aload hC.1 hC.2.1 d (hls.at (i := 7) rfl) (k p e s m args below meth c r0 r H locs ls hC hZ hW hR hlo hls)
theorem V_an7 (q : Nat) {a0 a1 a2 a3 a4 a5 a6 : Option Value} {t : List (Option Value)}  (d : decode cc pc = .ok (.aload 7, 2)) (hq : pc + 2 = q) (k : V l G y cc nL ret R mc ms Z post L M cells slots (a0 :: a1 :: a2 :: a3 :: a4 :: a5 :: a6 :: some (.null) :: t) q (.null :: st)) : V l G y cc nL ret R mc ms Z post L M cells slots (a0 :: a1 :: a2 :: a3 :: a4 :: a5 :: a6 :: some (.null) :: t) pc (st) := by
  subst hq
  intro p e s m args below meth c r0 r H locs ls hC hZ hW hR hlo hls
  exact lv_aloadN hC.1 hC.2.1 d (hls.at (i := 7) rfl) (k p e s m args below meth c r0 r H locs ls hC hZ hW hR hlo hls)
theorem V_is7 (q : Nat) {a0 a1 a2 a3 a4 a5 a6 b : Option Value} {t : List (Option Value)} {x : Int32} (d : decode cc pc = .ok (.istore 7, 2)) (hn : 7 < nL) (hq : pc + 2 = q) (k : V l G y cc nL ret R mc ms Z post L M cells slots (a0 :: a1 :: a2 :: a3 :: a4 :: a5 :: a6 :: some (.int x) :: t) q st) : V l G y cc nL ret R mc ms Z post L M cells slots (a0 :: a1 :: a2 :: a3 :: a4 :: a5 :: a6 :: b :: t) pc (.int x :: st) := by
  subst hq
  intro p e s m args below meth c r0 r H locs ls hC hZ hW hR hlo hls
  exact lv_istore hC.1 hC.2.1 d hls.1 hn rfl (fun ls' h' => k p e s m args below meth c r0 r H locs ls' hC hZ hW hR hlo (gH.set (i := 7) (v := .int x) hls.2 rfl h'))
theorem V_as7 (q : Nat) {a0 a1 a2 a3 a4 a5 a6 b : Option Value} {t : List (Option Value)} {x : Nat} (d : decode cc pc = .ok (.astore 7, 2)) (hn : 7 < nL) (hq : pc + 2 = q) (k : V l G y cc nL ret R mc ms Z post L M cells slots (a0 :: a1 :: a2 :: a3 :: a4 :: a5 :: a6 :: some (.ref x) :: t) q st) : V l G y cc nL ret R mc ms Z post L M cells slots (a0 :: a1 :: a2 :: a3 :: a4 :: a5 :: a6 :: b :: t) pc (.ref x :: st) := by
  subst hq
  intro p e s m args below meth c r0 r H locs ls hC hZ hW hR hlo hls
  exact lv_astore hC.1 hC.2.1 d hls.1 hn rfl (fun ls' h' => k p e s m args below meth c r0 r H locs ls' hC hZ hW hR hlo (gH.set (i := 7) (v := .ref x) hls.2 rfl h'))
theorem V_az7 (q : Nat) {a0 a1 a2 a3 a4 a5 a6 b : Option Value} {t : List (Option Value)}  (d : decode cc pc = .ok (.astore 7, 2)) (hn : 7 < nL) (hq : pc + 2 = q) (k : V l G y cc nL ret R mc ms Z post L M cells slots (a0 :: a1 :: a2 :: a3 :: a4 :: a5 :: a6 :: some (.null) :: t) q st) : V l G y cc nL ret R mc ms Z post L M cells slots (a0 :: a1 :: a2 :: a3 :: a4 :: a5 :: a6 :: b :: t) pc (.null :: st) := by
  subst hq
  intro p e s m args below meth c r0 r H locs ls hC hZ hW hR hlo hls
  exact lv_astoreN hC.1 hC.2.1 d hls.1 hn rfl (fun ls' h' => k p e s m args below meth c r0 r H locs ls' hC hZ hW hR hlo (gH.set (i := 7) (v := .null) hls.2 rfl h'))
theorem V_ii7 (q : Nat) {a0 a1 a2 a3 a4 a5 a6 : Option Value} {t : List (Option Value)} {x v : Int32} {n : Int} (d : decode cc pc = .ok (.iinc 7 n, 3)) (hn : 7 < nL) (hv : Int32.ofInt n = v) (hq : pc + 3 = q) (k : V l G y cc nL ret R mc ms Z post L M cells slots (a0 :: a1 :: a2 :: a3 :: a4 :: a5 :: a6 :: some (.int (x + v)) :: t) q st) : V l G y cc nL ret R mc ms Z post L M cells slots (a0 :: a1 :: a2 :: a3 :: a4 :: a5 :: a6 :: some (.int x) :: t) pc st := by
  subst hq
  subst hv
  intro p e s m args below meth c r0 r H locs ls hC hZ hW hR hlo hls
  obtain ⟨k9, hk9⟩ := List.getElem?_of_mem (gP_mem.mpr ⟨.int x, rfl, rfl⟩ : (7, Value.int x) ∈ gP r (a0 :: a1 :: a2 :: a3 :: a4 :: a5 :: a6 :: some (.int x) :: t))
  exact lv_iinc hC.1 hC.2.1 d hls.1 hk9 rfl hn rfl (fun ls' h' => k p e s m args below meth c r0 r H locs ls' hC hZ hW hR hlo (gH.set (i := 7) (v := .int (x + Int32.ofInt n)) hls.2 rfl h'))
theorem V_il8 (q : Nat) {a0 a1 a2 a3 a4 a5 a6 a7 : Option Value} {t : List (Option Value)} {x : Int32} (d : decode cc pc = .ok (.iload 8, 2)) (hq : pc + 2 = q) (k : V l G y cc nL ret R mc ms Z post L M cells slots (a0 :: a1 :: a2 :: a3 :: a4 :: a5 :: a6 :: a7 :: some (.int x) :: t) q (.int x :: st)) : V l G y cc nL ret R mc ms Z post L M cells slots (a0 :: a1 :: a2 :: a3 :: a4 :: a5 :: a6 :: a7 :: some (.int x) :: t) pc (st) := by
  subst hq
  intro p e s m args below meth c r0 r H locs ls hC hZ hW hR hlo hls
  exact lv_iload hC.1 hC.2.1 d (hls.at (i := 8) rfl) (k p e s m args below meth c r0 r H locs ls hC hZ hW hR hlo hls)
theorem V_al8 (q : Nat) {a0 a1 a2 a3 a4 a5 a6 a7 : Option Value} {t : List (Option Value)} {x : Nat} (d : decode cc pc = .ok (.aload 8, 2)) (hq : pc + 2 = q) (k : V l G y cc nL ret R mc ms Z post L M cells slots (a0 :: a1 :: a2 :: a3 :: a4 :: a5 :: a6 :: a7 :: some (.ref x) :: t) q (.ref x :: st)) : V l G y cc nL ret R mc ms Z post L M cells slots (a0 :: a1 :: a2 :: a3 :: a4 :: a5 :: a6 :: a7 :: some (.ref x) :: t) pc (st) := by
  subst hq
  intro p e s m args below meth c r0 r H locs ls hC hZ hW hR hlo hls
  exact lv_aload hC.1 hC.2.1 d (hls.at (i := 8) rfl) (k p e s m args below meth c r0 r H locs ls hC hZ hW hR hlo hls)
theorem V_an8 (q : Nat) {a0 a1 a2 a3 a4 a5 a6 a7 : Option Value} {t : List (Option Value)}  (d : decode cc pc = .ok (.aload 8, 2)) (hq : pc + 2 = q) (k : V l G y cc nL ret R mc ms Z post L M cells slots (a0 :: a1 :: a2 :: a3 :: a4 :: a5 :: a6 :: a7 :: some (.null) :: t) q (.null :: st)) : V l G y cc nL ret R mc ms Z post L M cells slots (a0 :: a1 :: a2 :: a3 :: a4 :: a5 :: a6 :: a7 :: some (.null) :: t) pc (st) := by
  subst hq
  intro p e s m args below meth c r0 r H locs ls hC hZ hW hR hlo hls
  exact lv_aloadN hC.1 hC.2.1 d (hls.at (i := 8) rfl) (k p e s m args below meth c r0 r H locs ls hC hZ hW hR hlo hls)
theorem V_is8 (q : Nat) {a0 a1 a2 a3 a4 a5 a6 a7 b : Option Value} {t : List (Option Value)} {x : Int32} (d : decode cc pc = .ok (.istore 8, 2)) (hn : 8 < nL) (hq : pc + 2 = q) (k : V l G y cc nL ret R mc ms Z post L M cells slots (a0 :: a1 :: a2 :: a3 :: a4 :: a5 :: a6 :: a7 :: some (.int x) :: t) q st) : V l G y cc nL ret R mc ms Z post L M cells slots (a0 :: a1 :: a2 :: a3 :: a4 :: a5 :: a6 :: a7 :: b :: t) pc (.int x :: st) := by
  subst hq
  intro p e s m args below meth c r0 r H locs ls hC hZ hW hR hlo hls
  exact lv_istore hC.1 hC.2.1 d hls.1 hn rfl (fun ls' h' => k p e s m args below meth c r0 r H locs ls' hC hZ hW hR hlo (gH.set (i := 8) (v := .int x) hls.2 rfl h'))
theorem V_as8 (q : Nat) {a0 a1 a2 a3 a4 a5 a6 a7 b : Option Value} {t : List (Option Value)} {x : Nat} (d : decode cc pc = .ok (.astore 8, 2)) (hn : 8 < nL) (hq : pc + 2 = q) (k : V l G y cc nL ret R mc ms Z post L M cells slots (a0 :: a1 :: a2 :: a3 :: a4 :: a5 :: a6 :: a7 :: some (.ref x) :: t) q st) : V l G y cc nL ret R mc ms Z post L M cells slots (a0 :: a1 :: a2 :: a3 :: a4 :: a5 :: a6 :: a7 :: b :: t) pc (.ref x :: st) := by
  subst hq
  intro p e s m args below meth c r0 r H locs ls hC hZ hW hR hlo hls
  exact lv_astore hC.1 hC.2.1 d hls.1 hn rfl (fun ls' h' => k p e s m args below meth c r0 r H locs ls' hC hZ hW hR hlo (gH.set (i := 8) (v := .ref x) hls.2 rfl h'))
theorem V_az8 (q : Nat) {a0 a1 a2 a3 a4 a5 a6 a7 b : Option Value} {t : List (Option Value)}  (d : decode cc pc = .ok (.astore 8, 2)) (hn : 8 < nL) (hq : pc + 2 = q) (k : V l G y cc nL ret R mc ms Z post L M cells slots (a0 :: a1 :: a2 :: a3 :: a4 :: a5 :: a6 :: a7 :: some (.null) :: t) q st) : V l G y cc nL ret R mc ms Z post L M cells slots (a0 :: a1 :: a2 :: a3 :: a4 :: a5 :: a6 :: a7 :: b :: t) pc (.null :: st) := by
  subst hq
  intro p e s m args below meth c r0 r H locs ls hC hZ hW hR hlo hls
  exact lv_astoreN hC.1 hC.2.1 d hls.1 hn rfl (fun ls' h' => k p e s m args below meth c r0 r H locs ls' hC hZ hW hR hlo (gH.set (i := 8) (v := .null) hls.2 rfl h'))
theorem V_ii8 (q : Nat) {a0 a1 a2 a3 a4 a5 a6 a7 : Option Value} {t : List (Option Value)} {x v : Int32} {n : Int} (d : decode cc pc = .ok (.iinc 8 n, 3)) (hn : 8 < nL) (hv : Int32.ofInt n = v) (hq : pc + 3 = q) (k : V l G y cc nL ret R mc ms Z post L M cells slots (a0 :: a1 :: a2 :: a3 :: a4 :: a5 :: a6 :: a7 :: some (.int (x + v)) :: t) q st) : V l G y cc nL ret R mc ms Z post L M cells slots (a0 :: a1 :: a2 :: a3 :: a4 :: a5 :: a6 :: a7 :: some (.int x) :: t) pc st := by
  subst hq
  subst hv
  intro p e s m args below meth c r0 r H locs ls hC hZ hW hR hlo hls
  obtain ⟨k9, hk9⟩ := List.getElem?_of_mem (gP_mem.mpr ⟨.int x, rfl, rfl⟩ : (8, Value.int x) ∈ gP r (a0 :: a1 :: a2 :: a3 :: a4 :: a5 :: a6 :: a7 :: some (.int x) :: t))
  exact lv_iinc hC.1 hC.2.1 d hls.1 hk9 rfl hn rfl (fun ls' h' => k p e s m args below meth c r0 r H locs ls' hC hZ hW hR hlo (gH.set (i := 8) (v := .int (x + Int32.ofInt n)) hls.2 rfl h'))
theorem V_il9 (q : Nat) {a0 a1 a2 a3 a4 a5 a6 a7 a8 : Option Value} {t : List (Option Value)} {x : Int32} (d : decode cc pc = .ok (.iload 9, 2)) (hq : pc + 2 = q) (k : V l G y cc nL ret R mc ms Z post L M cells slots (a0 :: a1 :: a2 :: a3 :: a4 :: a5 :: a6 :: a7 :: a8 :: some (.int x) :: t) q (.int x :: st)) : V l G y cc nL ret R mc ms Z post L M cells slots (a0 :: a1 :: a2 :: a3 :: a4 :: a5 :: a6 :: a7 :: a8 :: some (.int x) :: t) pc (st) := by
  subst hq
  intro p e s m args below meth c r0 r H locs ls hC hZ hW hR hlo hls
  exact lv_iload hC.1 hC.2.1 d (hls.at (i := 9) rfl) (k p e s m args below meth c r0 r H locs ls hC hZ hW hR hlo hls)
theorem V_al9 (q : Nat) {a0 a1 a2 a3 a4 a5 a6 a7 a8 : Option Value} {t : List (Option Value)} {x : Nat} (d : decode cc pc = .ok (.aload 9, 2)) (hq : pc + 2 = q) (k : V l G y cc nL ret R mc ms Z post L M cells slots (a0 :: a1 :: a2 :: a3 :: a4 :: a5 :: a6 :: a7 :: a8 :: some (.ref x) :: t) q (.ref x :: st)) : V l G y cc nL ret R mc ms Z post L M cells slots (a0 :: a1 :: a2 :: a3 :: a4 :: a5 :: a6 :: a7 :: a8 :: some (.ref x) :: t) pc (st) := by
  subst hq
  intro p e s m args below meth c r0 r H locs ls hC hZ hW hR hlo hls
  exact lv_aload hC.1 hC.2.1 d (hls.at (i := 9) rfl) (k p e s m args below meth c r0 r H locs ls hC hZ hW hR hlo hls)
theorem V_an9 (q : Nat) {a0 a1 a2 a3 a4 a5 a6 a7 a8 : Option Value} {t : List (Option Value)}  (d : decode cc pc = .ok (.aload 9, 2)) (hq : pc + 2 = q) (k : V l G y cc nL ret R mc ms Z post L M cells slots (a0 :: a1 :: a2 :: a3 :: a4 :: a5 :: a6 :: a7 :: a8 :: some (.null) :: t) q (.null :: st)) : V l G y cc nL ret R mc ms Z post L M cells slots (a0 :: a1 :: a2 :: a3 :: a4 :: a5 :: a6 :: a7 :: a8 :: some (.null) :: t) pc (st) := by
  subst hq
  intro p e s m args below meth c r0 r H locs ls hC hZ hW hR hlo hls
  exact lv_aloadN hC.1 hC.2.1 d (hls.at (i := 9) rfl) (k p e s m args below meth c r0 r H locs ls hC hZ hW hR hlo hls)
theorem V_is9 (q : Nat) {a0 a1 a2 a3 a4 a5 a6 a7 a8 b : Option Value} {t : List (Option Value)} {x : Int32} (d : decode cc pc = .ok (.istore 9, 2)) (hn : 9 < nL) (hq : pc + 2 = q) (k : V l G y cc nL ret R mc ms Z post L M cells slots (a0 :: a1 :: a2 :: a3 :: a4 :: a5 :: a6 :: a7 :: a8 :: some (.int x) :: t) q st) : V l G y cc nL ret R mc ms Z post L M cells slots (a0 :: a1 :: a2 :: a3 :: a4 :: a5 :: a6 :: a7 :: a8 :: b :: t) pc (.int x :: st) := by
  subst hq
  intro p e s m args below meth c r0 r H locs ls hC hZ hW hR hlo hls
  exact lv_istore hC.1 hC.2.1 d hls.1 hn rfl (fun ls' h' => k p e s m args below meth c r0 r H locs ls' hC hZ hW hR hlo (gH.set (i := 9) (v := .int x) hls.2 rfl h'))
theorem V_as9 (q : Nat) {a0 a1 a2 a3 a4 a5 a6 a7 a8 b : Option Value} {t : List (Option Value)} {x : Nat} (d : decode cc pc = .ok (.astore 9, 2)) (hn : 9 < nL) (hq : pc + 2 = q) (k : V l G y cc nL ret R mc ms Z post L M cells slots (a0 :: a1 :: a2 :: a3 :: a4 :: a5 :: a6 :: a7 :: a8 :: some (.ref x) :: t) q st) : V l G y cc nL ret R mc ms Z post L M cells slots (a0 :: a1 :: a2 :: a3 :: a4 :: a5 :: a6 :: a7 :: a8 :: b :: t) pc (.ref x :: st) := by
  subst hq
  intro p e s m args below meth c r0 r H locs ls hC hZ hW hR hlo hls
  exact lv_astore hC.1 hC.2.1 d hls.1 hn rfl (fun ls' h' => k p e s m args below meth c r0 r H locs ls' hC hZ hW hR hlo (gH.set (i := 9) (v := .ref x) hls.2 rfl h'))
theorem V_az9 (q : Nat) {a0 a1 a2 a3 a4 a5 a6 a7 a8 b : Option Value} {t : List (Option Value)}  (d : decode cc pc = .ok (.astore 9, 2)) (hn : 9 < nL) (hq : pc + 2 = q) (k : V l G y cc nL ret R mc ms Z post L M cells slots (a0 :: a1 :: a2 :: a3 :: a4 :: a5 :: a6 :: a7 :: a8 :: some (.null) :: t) q st) : V l G y cc nL ret R mc ms Z post L M cells slots (a0 :: a1 :: a2 :: a3 :: a4 :: a5 :: a6 :: a7 :: a8 :: b :: t) pc (.null :: st) := by
  subst hq
  intro p e s m args below meth c r0 r H locs ls hC hZ hW hR hlo hls
  exact lv_astoreN hC.1 hC.2.1 d hls.1 hn rfl (fun ls' h' => k p e s m args below meth c r0 r H locs ls' hC hZ hW hR hlo (gH.set (i := 9) (v := .null) hls.2 rfl h'))
theorem V_ii9 (q : Nat) {a0 a1 a2 a3 a4 a5 a6 a7 a8 : Option Value} {t : List (Option Value)} {x v : Int32} {n : Int} (d : decode cc pc = .ok (.iinc 9 n, 3)) (hn : 9 < nL) (hv : Int32.ofInt n = v) (hq : pc + 3 = q) (k : V l G y cc nL ret R mc ms Z post L M cells slots (a0 :: a1 :: a2 :: a3 :: a4 :: a5 :: a6 :: a7 :: a8 :: some (.int (x + v)) :: t) q st) : V l G y cc nL ret R mc ms Z post L M cells slots (a0 :: a1 :: a2 :: a3 :: a4 :: a5 :: a6 :: a7 :: a8 :: some (.int x) :: t) pc st := by
  subst hq
  subst hv
  intro p e s m args below meth c r0 r H locs ls hC hZ hW hR hlo hls
  obtain ⟨k9, hk9⟩ := List.getElem?_of_mem (gP_mem.mpr ⟨.int x, rfl, rfl⟩ : (9, Value.int x) ∈ gP r (a0 :: a1 :: a2 :: a3 :: a4 :: a5 :: a6 :: a7 :: a8 :: some (.int x) :: t))
  exact lv_iinc hC.1 hC.2.1 d hls.1 hk9 rfl hn rfl (fun ls' h' => k p e s m args below meth c r0 r H locs ls' hC hZ hW hR hlo (gH.set (i := 9) (v := .int (x + Int32.ofInt n)) hls.2 rfl h'))
theorem V_il10 (q : Nat) {a0 a1 a2 a3 a4 a5 a6 a7 a8 a9 : Option Value} {t : List (Option Value)} {x : Int32} (d : decode cc pc = .ok (.iload 10, 2)) (hq : pc + 2 = q) (k : V l G y cc nL ret R mc ms Z post L M cells slots (a0 :: a1 :: a2 :: a3 :: a4 :: a5 :: a6 :: a7 :: a8 :: a9 :: some (.int x) :: t) q (.int x :: st)) : V l G y cc nL ret R mc ms Z post L M cells slots (a0 :: a1 :: a2 :: a3 :: a4 :: a5 :: a6 :: a7 :: a8 :: a9 :: some (.int x) :: t) pc (st) := by
  subst hq
  intro p e s m args below meth c r0 r H locs ls hC hZ hW hR hlo hls
  exact lv_iload hC.1 hC.2.1 d (hls.at (i := 10) rfl) (k p e s m args below meth c r0 r H locs ls hC hZ hW hR hlo hls)
theorem V_al10 (q : Nat) {a0 a1 a2 a3 a4 a5 a6 a7 a8 a9 : Option Value} {t : List (Option Value)} {x : Nat} (d : decode cc pc = .ok (.aload 10, 2)) (hq : pc + 2 = q) (k : V l G y cc nL ret R mc ms Z post L M cells slots (a0 :: a1 :: a2 :: a3 :: a4 :: a5 :: a6 :: a7 :: a8 :: a9 :: some (.ref x) :: t) q (.ref x :: st)) : V l G y cc nL ret R mc ms Z post L M cells slots (a0 :: a1 :: a2 :: a3 :: a4 :: a5 :: a6 :: a7 :: a8 :: a9 :: some (.ref x) :: t) pc (st) := by
  subst hq
  intro p e s m args below meth c r0 r H locs ls hC hZ hW hR hlo hls
  exact lv_aload hC.1 hC.2.1 d (hls.at (i := 10) rfl) (k p e s m args below meth c r0 r H locs ls hC hZ hW hR hlo hls)
theorem V_an10 (q : Nat) {a0 a1 a2 a3 a4 a5 a6 a7 a8 a9 : Option Value} {t : List (Option Value)}  (d : decode cc pc = .ok (.aload 10, 2)) (hq : pc + 2 = q) (k : V l G y cc nL ret R mc ms Z post L M cells slots (a0 :: a1 :: a2 :: a3 :: a4 :: a5 :: a6 :: a7 :: a8 :: a9 :: some (.null) :: t) q (.null :: st)) : V l G y cc nL ret R mc ms Z post L M cells slots (a0 :: a1 :: a2 :: a3 :: a4 :: a5 :: a6 :: a7 :: a8 :: a9 :: some (.null) :: t) pc (st) := by
  subst hq
  intro p e s m args below meth c r0 r H locs ls hC hZ hW hR hlo hls
  exact lv_aloadN hC.1 hC.2.1 d (hls.at (i := 10) rfl) (k p e s m args below meth c r0 r H locs ls hC hZ hW hR hlo hls)
theorem V_is10 (q : Nat) {a0 a1 a2 a3 a4 a5 a6 a7 a8 a9 b : Option Value} {t : List (Option Value)} {x : Int32} (d : decode cc pc = .ok (.istore 10, 2)) (hn : 10 < nL) (hq : pc + 2 = q) (k : V l G y cc nL ret R mc ms Z post L M cells slots (a0 :: a1 :: a2 :: a3 :: a4 :: a5 :: a6 :: a7 :: a8 :: a9 :: some (.int x) :: t) q st) : V l G y cc nL ret R mc ms Z post L M cells slots (a0 :: a1 :: a2 :: a3 :: a4 :: a5 :: a6 :: a7 :: a8 :: a9 :: b :: t) pc (.int x :: st) := by
  subst hq
  intro p e s m args below meth c r0 r H locs ls hC hZ hW hR hlo hls
  exact lv_istore hC.1 hC.2.1 d hls.1 hn rfl (fun ls' h' => k p e s m args below meth c r0 r H locs ls' hC hZ hW hR hlo (gH.set (i := 10) (v := .int x) hls.2 rfl h'))
theorem V_as10 (q : Nat) {a0 a1 a2 a3 a4 a5 a6 a7 a8 a9 b : Option Value} {t : List (Option Value)} {x : Nat} (d : decode cc pc = .ok (.astore 10, 2)) (hn : 10 < nL) (hq : pc + 2 = q) (k : V l G y cc nL ret R mc ms Z post L M cells slots (a0 :: a1 :: a2 :: a3 :: a4 :: a5 :: a6 :: a7 :: a8 :: a9 :: some (.ref x) :: t) q st) : V l G y cc nL ret R mc ms Z post L M cells slots (a0 :: a1 :: a2 :: a3 :: a4 :: a5 :: a6 :: a7 :: a8 :: a9 :: b :: t) pc (.ref x :: st) := by
  subst hq
  intro p e s m args below meth c r0 r H locs ls hC hZ hW hR hlo hls
  exact lv_astore hC.1 hC.2.1 d hls.1 hn rfl (fun ls' h' => k p e s m args below meth c r0 r H locs ls' hC hZ hW hR hlo (gH.set (i := 10) (v := .ref x) hls.2 rfl h'))
theorem V_az10 (q : Nat) {a0 a1 a2 a3 a4 a5 a6 a7 a8 a9 b : Option Value} {t : List (Option Value)}  (d : decode cc pc = .ok (.astore 10, 2)) (hn : 10 < nL) (hq : pc + 2 = q) (k : V l G y cc nL ret R mc ms Z post L M cells slots (a0 :: a1 :: a2 :: a3 :: a4 :: a5 :: a6 :: a7 :: a8 :: a9 :: some (.null) :: t) q st) : V l G y cc nL ret R mc ms Z post L M cells slots (a0 :: a1 :: a2 :: a3 :: a4 :: a5 :: a6 :: a7 :: a8 :: a9 :: b :: t) pc (.null :: st) := by
  subst hq
  intro p e s m args below meth c r0 r H locs ls hC hZ hW hR hlo hls
  exact lv_astoreN hC.1 hC.2.1 d hls.1 hn rfl (fun ls' h' => k p e s m args below meth c r0 r H locs ls' hC hZ hW hR hlo (gH.set (i := 10) (v := .null) hls.2 rfl h'))
theorem V_ii10 (q : Nat) {a0 a1 a2 a3 a4 a5 a6 a7 a8 a9 : Option Value} {t : List (Option Value)} {x v : Int32} {n : Int} (d : decode cc pc = .ok (.iinc 10 n, 3)) (hn : 10 < nL) (hv : Int32.ofInt n = v) (hq : pc + 3 = q) (k : V l G y cc nL ret R mc ms Z post L M cells slots (a0 :: a1 :: a2 :: a3 :: a4 :: a5 :: a6 :: a7 :: a8 :: a9 :: some (.int (x + v)) :: t) q st) : V l G y cc nL ret R mc ms Z post L M cells slots (a0 :: a1 :: a2 :: a3 :: a4 :: a5 :: a6 :: a7 :: a8 :: a9 :: some (.int x) :: t) pc st := by
  subst hq
  subst hv
  intro p e s m args below meth c r0 r H locs ls hC hZ hW hR hlo hls
  obtain ⟨k9, hk9⟩ := List.getElem?_of_mem (gP_mem.mpr ⟨.int x, rfl, rfl⟩ : (10, Value.int x) ∈ gP r (a0 :: a1 :: a2 :: a3 :: a4 :: a5 :: a6 :: a7 :: a8 :: a9 :: some (.int x) :: t))
  exact lv_iinc hC.1 hC.2.1 d hls.1 hk9 rfl hn rfl (fun ls' h' => k p e s m args below meth c r0 r H locs ls' hC hZ hW hR hlo (gH.set (i := 10) (v := .int (x + Int32.ofInt n)) hls.2 rfl h'))
theorem V_il11 (q : Nat) {a0 a1 a2 a3 a4 a5 a6 a7 a8 a9 a10 : Option Value} {t : List (Option Value)} {x : Int32} (d : decode cc pc = .ok (.iload 11, 2)) (hq : pc + 2 = q) (k : V l G y cc nL ret R mc ms Z post L M cells slots (a0 :: a1 :: a2 :: a3 :: a4 :: a5 :: a6 :: a7 :: a8 :: a9 :: a10 :: some (.int x) :: t) q (.int x :: st)) : V l G y cc nL ret R mc ms Z post L M cells slots (a0 :: a1 :: a2 :: a3 :: a4 :: a5 :: a6 :: a7 :: a8 :: a9 :: a10 :: some (.int x) :: t) pc (st) := by
  subst hq
  intro p e s m args below meth c r0 r H locs ls hC hZ hW hR hlo hls
  exact lv_iload hC.1 hC.2.1 d (hls.at (i := 11) rfl) (k p e s m args below meth c r0 r H locs ls hC hZ hW hR hlo hls)
theorem V_al11 (q : Nat) {a0 a1 a2 a3 a4 a5 a6 a7 a8 a9 a10 : Option Value} {t : List (Option Value)} {x : Nat} (d : decode cc pc = .ok (.aload 11, 2)) (hq : pc + 2 = q) (k : V l G y cc nL ret R mc ms Z post L M cells slots (a0 :: a1 :: a2 :: a3 :: a4 :: a5 :: a6 :: a7 :: a8 :: a9 :: a10 :: some (.ref x) :: t) q (.ref x :: st)) : V l G y cc nL ret R mc ms Z post L M cells slots (a0 :: a1 :: a2 :: a3 :: a4 :: a5 :: a6 :: a7 :: a8 :: a9 :: a10 :: some (.ref x) :: t) pc (st) := by
  subst hq
  intro p e s m args below meth c r0 r H locs ls hC hZ hW hR hlo hls
  exact lv_aload hC.1 hC.2.1 d (hls.at (i := 11) rfl) (k p e s m args below meth c r0 r H locs ls hC hZ hW hR hlo hls)
theorem V_an11 (q : Nat) {a0 a1 a2 a3 a4 a5 a6 a7 a8 a9 a10 : Option Value} {t : List (Option Value)}  (d : decode cc pc = .ok (.aload 11, 2)) (hq : pc + 2 = q) (k : V l G y cc nL ret R mc ms Z post L M cells slots (a0 :: a1 :: a2 :: a3 :: a4 :: a5 :: a6 :: a7 :: a8 :: a9 :: a10 :: some (.null) :: t) q (.null :: st)) : V l G y cc nL ret R mc ms Z post L M cells slots (a0 :: a1 :: a2 :: a3 :: a4 :: a5 :: a6 :: a7 :: a8 :: a9 :: a10 :: some (.null) :: t) pc (st) := by
  subst hq
  intro p e s m args below meth c r0 r H locs ls hC hZ hW hR hlo hls
  exact lv_aloadN hC.1 hC.2.1 d (hls.at (i := 11) rfl) (k p e s m args below meth c r0 r H locs ls hC hZ hW hR hlo hls)
theorem V_is11 (q : Nat) {a0 a1 a2 a3 a4 a5 a6 a7 a8 a9 a10 b : Option Value} {t : List (Option Value)} {x : Int32} (d : decode cc pc = .ok (.istore 11, 2)) (hn : 11 < nL) (hq : pc + 2 = q) (k : V l G y cc nL ret R mc ms Z post L M cells slots (a0 :: a1 :: a2 :: a3 :: a4 :: a5 :: a6 :: a7 :: a8 :: a9 :: a10 :: some (.int x) :: t) q st) : V l G y cc nL ret R mc ms Z post L M cells slots (a0 :: a1 :: a2 :: a3 :: a4 :: a5 :: a6 :: a7 :: a8 :: a9 :: a10 :: b :: t) pc (.int x :: st) := by
  subst hq
  intro p e s m args below meth c r0 r H locs ls hC hZ hW hR hlo hls
  exact lv_istore hC.1 hC.2.1 d hls.1 hn rfl (fun ls' h' => k p e s m args below meth c r0 r H locs ls' hC hZ hW hR hlo (gH.set (i := 11) (v := .int x) hls.2 rfl h'))
theorem V_as11 (q : Nat) {a0 a1 a2 a3 a4 a5 a6 a7 a8 a9 a10 b : Option Value} {t : List (Option Value)} {x : Nat} (d : decode cc pc = .ok (.astore 11, 2)) (hn : 11 < nL) (hq : pc + 2 = q) (k : V l G y cc nL ret R mc ms Z post L M cells slots (a0 :: a1 :: a2 :: a3 :: a4 :: a5 :: a6 :: a7 :: a8 :: a9 :: a10 :: some (.ref x) :: t) q st) : V l G y cc nL ret R mc ms Z post L M cells slots (a0 :: a1 :: a2 :: a3 :: a4 :: a5 :: a6 :: a7 :: a8 :: a9 :: a10 :: b :: t) pc (.ref x :: st) := by
  subst hq
  intro p e s m args below meth c r0 r H locs ls hC hZ hW hR hlo hls
  exact lv_astore hC.1 hC.2.1 d hls.1 hn rfl (fun ls' h' => k p e s m args below meth c r0 r H locs ls' hC hZ hW hR hlo (gH.set (i := 11) (v := .ref x) hls.2 rfl h'))
theorem V_az11 (q : Nat) {a0 a1 a2 a3 a4 a5 a6 a7 a8 a9 a10 b : Option Value} {t : List (Option Value)}  (d : decode cc pc = .ok (.astore 11, 2)) (hn : 11 < nL) (hq : pc + 2 = q) (k : V l G y cc nL ret R mc ms Z post L M cells slots (a0 :: a1 :: a2 :: a3 :: a4 :: a5 :: a6 :: a7 :: a8 :: a9 :: a10 :: some (.null) :: t) q st) : V l G y cc nL ret R mc ms Z post L M cells slots (a0 :: a1 :: a2 :: a3 :: a4 :: a5 :: a6 :: a7 :: a8 :: a9 :: a10 :: b :: t) pc (.null :: st) := by
  subst hq
  intro p e s m args below meth c r0 r H locs ls hC hZ hW hR hlo hls
  exact lv_astoreN hC.1 hC.2.1 d hls.1 hn rfl (fun ls' h' => k p e s m args below meth c r0 r H locs ls' hC hZ hW hR hlo (gH.set (i := 11) (v := .null) hls.2 rfl h'))
theorem V_ii11 (q : Nat) {a0 a1 a2 a3 a4 a5 a6 a7 a8 a9 a10 : Option Value} {t : List (Option Value)} {x v : Int32} {n : Int} (d : decode cc pc = .ok (.iinc 11 n, 3)) (hn : 11 < nL) (hv : Int32.ofInt n = v) (hq : pc + 3 = q) (k : V l G y cc nL ret R mc ms Z post L M cells slots (a0 :: a1 :: a2 :: a3 :: a4 :: a5 :: a6 :: a7 :: a8 :: a9 :: a10 :: some (.int (x + v)) :: t) q st) : V l G y cc nL ret R mc ms Z post L M cells slots (a0 :: a1 :: a2 :: a3 :: a4 :: a5 :: a6 :: a7 :: a8 :: a9 :: a10 :: some (.int x) :: t) pc st := by
  subst hq
  subst hv
  intro p e s m args below meth c r0 r H locs ls hC hZ hW hR hlo hls
  obtain ⟨k9, hk9⟩ := List.getElem?_of_mem (gP_mem.mpr ⟨.int x, rfl, rfl⟩ : (11, Value.int x) ∈ gP r (a0 :: a1 :: a2 :: a3 :: a4 :: a5 :: a6 :: a7 :: a8 :: a9 :: a10 :: some (.int x) :: t))
  exact lv_iinc hC.1 hC.2.1 d hls.1 hk9 rfl hn rfl (fun ls' h' => k p e s m args below meth c r0 r H locs ls' hC hZ hW hR hlo (gH.set (i := 11) (v := .int (x + Int32.ofInt n)) hls.2 rfl h'))
theorem V_il12 (q : Nat) {a0 a1 a2 a3 a4 a5 a6 a7 a8 a9 a10 a11 : Option Value} {t : List (Option Value)} {x : Int32} (d : decode cc pc = .ok (.iload 12, 2)) (hq : pc + 2 = q) (k : V l G y cc nL ret R mc ms Z post L M cells slots (a0 :: a1 :: a2 :: a3 :: a4 :: a5 :: a6 :: a7 :: a8 :: a9 :: a10 :: a11 :: some (.int x) :: t) q (.int x :: st)) : V l G y cc nL ret R mc ms Z post L M cells slots (a0 :: a1 :: a2 :: a3 :: a4 :: a5 :: a6 :: a7 :: a8 :: a9 :: a10 :: a11 :: some (.int x) :: t) pc (st) := by
  subst hq
  intro p e s m args below meth c r0 r H locs ls hC hZ hW hR hlo hls
  exact lv_iload hC.1 hC.2.1 d (hls.at (i := 12) rfl) (k p e s m args below meth c r0 r H locs ls hC hZ hW hR hlo hls)
theorem V_al12 (q : Nat) {a0 a1 a2 a3 a4 a5 a6 a7 a8 a9 a10 a11 : Option Value} {t : List (Option Value)} {x : Nat} (d : decode cc pc = .ok (.aload 12, 2)) (hq : pc + 2 = q) (k : V l G y cc nL ret R mc ms Z post L M cells slots (a0 :: a1 :: a2 :: a3 :: a4 :: a5 :: a6 :: a7 :: a8 :: a9 :: a10 :: a11 :: some (.ref x) :: t) q (.ref x :: st)) : V l G y cc nL ret R mc ms Z post L M cells slots (a0 :: a1 :: a2 :: a3 :: a4 :: a5 :: a6 :: a7 :: a8 :: a9 :: a10 :: a11 :: some (.ref x) :: t) pc (st) := by
  subst hq
  intro p e s m args below meth c r0 r H locs ls hC hZ hW hR hlo hls
  exact lv_aload hC.1 hC.2.1 d (hls.at (i := 12) rfl) (k p e s m args below meth c r0 r H locs ls hC hZ hW hR hlo hls)
theorem V_an12 (q : Nat) {a0 a1 a2 a3 a4 a5 a6 a7 a8 a9 a10 a11 : Option Value} {t : List (Option Value)}  (d : decode cc pc = .ok (.aload 12, 2)) (hq : pc + 2 = q) (k : V l G y cc nL ret R mc ms Z post L M cells slots (a0 :: a1 :: a2 :: a3 :: a4 :: a5 :: a6 :: a7 :: a8 :: a9 :: a10 :: a11 :: some (.null) :: t) q (.null :: st)) : V l G y cc nL ret R mc ms Z post L M cells slots (a0 :: a1 :: a2 :: a3 :: a4 :: a5 :: a6 :: a7 :: a8 :: a9 :: a10 :: a11 :: some (.null) :: t) pc (st) := by
  subst hq
  intro p e s m args below meth c r0 r H locs ls hC hZ hW hR hlo hls
  exact lv_aloadN hC.1 hC.2.1 d (hls.at (i := 12) rfl) (k p e s m args below meth c r0 r H locs ls hC hZ hW hR hlo hls)
theorem V_is12 (q : Nat) {a0 a1 a2 a3 a4 a5 a6 a7 a8 a9 a10 a11 b : Option Value} {t : List (Option Value)} {x : Int32} (d : decode cc pc = .ok (.istore 12, 2)) (hn : 12 < nL) (hq : pc + 2 = q) (k : V l G y cc nL ret R mc ms Z post L M cells slots (a0 :: a1 :: a2 :: a3 :: a4 :: a5 :: a6 :: a7 :: a8 :: a9 :: a10 :: a11 :: some (.int x) :: t) q st) : V l G y cc nL ret R mc ms Z post L M cells slots (a0 :: a1 :: a2 :: a3 :: a4 :: a5 :: a6 :: a7 :: a8 :: a9 :: a10 :: a11 :: b :: t) pc (.int x :: st) := by
  subst hq
  intro p e s m args below meth c r0 r H locs ls hC hZ hW hR hlo hls
  exact lv_istore hC.1 hC.2.1 d hls.1 hn rfl (fun ls' h' => k p e s m args below meth c r0 r H locs ls' hC hZ hW hR hlo (gH.set (i := 12) (v := .int x) hls.2 rfl h'))
theorem V_as12 (q : Nat) {a0 a1 a2 a3 a4 a5 a6 a7 a8 a9 a10 a11 b : Option Value} {t : List (Option Value)} {x : Nat} (d : decode cc pc = .ok (.astore 12, 2)) (hn : 12 < nL) (hq : pc + 2 = q) (k : V l G y cc nL ret R mc ms Z post L M cells slots (a0 :: a1 :: a2 :: a3 :: a4 :: a5 :: a6 :: a7 :: a8 :: a9 :: a10 :: a11 :: some (.ref x) :: t) q st) : V l G y cc nL ret R mc ms Z post L M cells slots (a0 :: a1 :: a2 :: a3 :: a4 :: a5 :: a6 :: a7 :: a8 :: a9 :: a10 :: a11 :: b :: t) pc (.ref x :: st) := by
  subst hq
  intro p e s m args below meth c r0 r H locs ls hC hZ hW hR hlo hls
  exact lv_astore hC.1 hC.2.1 d hls.1 hn rfl (fun ls' h' => k p e s m args below meth c r0 r H locs ls' hC hZ hW hR hlo (gH.set (i := 12) (v := .ref x) hls.2 rfl h'))
theorem V_az12 (q : Nat) {a0 a1 a2 a3 a4 a5 a6 a7 a8 a9 a10 a11 b : Option Value} {t : List (Option Value)}  (d : decode cc pc = .ok (.astore 12, 2)) (hn : 12 < nL) (hq : pc + 2 = q) (k : V l G y cc nL ret R mc ms Z post L M cells slots (a0 :: a1 :: a2 :: a3 :: a4 :: a5 :: a6 :: a7 :: a8 :: a9 :: a10 :: a11 :: some (.null) :: t) q st) : V l G y cc nL ret R mc ms Z post L M cells slots (a0 :: a1 :: a2 :: a3 :: a4 :: a5 :: a6 :: a7 :: a8 :: a9 :: a10 :: a11 :: b :: t) pc (.null :: st) := by
  subst hq
  intro p e s m args below meth c r0 r H locs ls hC hZ hW hR hlo hls
  exact lv_astoreN hC.1 hC.2.1 d hls.1 hn rfl (fun ls' h' => k p e s m args below meth c r0 r H locs ls' hC hZ hW hR hlo (gH.set (i := 12) (v := .null) hls.2 rfl h'))
theorem V_ii12 (q : Nat) {a0 a1 a2 a3 a4 a5 a6 a7 a8 a9 a10 a11 : Option Value} {t : List (Option Value)} {x v : Int32} {n : Int} (d : decode cc pc = .ok (.iinc 12 n, 3)) (hn : 12 < nL) (hv : Int32.ofInt n = v) (hq : pc + 3 = q) (k : V l G y cc nL ret R mc ms Z post L M cells slots (a0 :: a1 :: a2 :: a3 :: a4 :: a5 :: a6 :: a7 :: a8 :: a9 :: a10 :: a11 :: some (.int (x + v)) :: t) q st) : V l G y cc nL ret R mc ms Z post L M cells slots (a0 :: a1 :: a2 :: a3 :: a4 :: a5 :: a6 :: a7 :: a8 :: a9 :: a10 :: a11 :: some (.int x) :: t) pc st := by
  subst hq
  subst hv
  intro p e s m args below meth c r0 r H locs ls hC hZ hW hR hlo hls
  obtain ⟨k9, hk9⟩ := List.getElem?_of_mem (gP_mem.mpr ⟨.int x, rfl, rfl⟩ : (12, Value.int x) ∈ gP r (a0 :: a1 :: a2 :: a3 :: a4 :: a5 :: a6 :: a7 :: a8 :: a9 :: a10 :: a11 :: some (.int x) :: t))
  exact lv_iinc hC.1 hC.2.1 d hls.1 hk9 rfl hn rfl (fun ls' h' => k p e s m args below meth c r0 r H locs ls' hC hZ hW hR hlo (gH.set (i := 12) (v := .int (x + Int32.ofInt n)) hls.2 rfl h'))
theorem V_il13 (q : Nat) {a0 a1 a2 a3 a4 a5 a6 a7 a8 a9 a10 a11 a12 : Option Value} {t : List (Option Value)} {x : Int32} (d : decode cc pc = .ok (.iload 13, 2)) (hq : pc + 2 = q) (k : V l G y cc nL ret R mc ms Z post L M cells slots (a0 :: a1 :: a2 :: a3 :: a4 :: a5 :: a6 :: a7 :: a8 :: a9 :: a10 :: a11 :: a12 :: some (.int x) :: t) q (.int x :: st)) : V l G y cc nL ret R mc ms Z post L M cells slots (a0 :: a1 :: a2 :: a3 :: a4 :: a5 :: a6 :: a7 :: a8 :: a9 :: a10 :: a11 :: a12 :: some (.int x) :: t) pc (st) := by
  subst hq
  intro p e s m args below meth c r0 r H locs ls hC hZ hW hR hlo hls
  exact lv_iload hC.1 hC.2.1 d (hls.at (i := 13) rfl) (k p e s m args below meth c r0 r H locs ls hC hZ hW hR hlo hls)
theorem V_al13 (q : Nat) {a0 a1 a2 a3 a4 a5 a6 a7 a8 a9 a10 a11 a12 : Option Value} {t : List (Option Value)} {x : Nat} (d : decode cc pc = .ok (.aload 13, 2)) (hq : pc + 2 = q) (k : V l G y cc nL ret R mc ms Z post L M cells slots (a0 :: a1 :: a2 :: a3 :: a4 :: a5 :: a6 :: a7 :: a8 :: a9 :: a10 :: a11 :: a12 :: some (.ref x) :: t) q (.ref x :: st)) : V l G y cc nL ret R mc ms Z post L M cells slots (a0 :: a1 :: a2 :: a3 :: a4 :: a5 :: a6 :: a7 :: a8 :: a9 :: a10 :: a11 :: a12 :: some (.ref x) :: t) pc (st) := by
  subst hq
  intro p e s m args below meth c r0 r H locs ls hC hZ hW hR hlo hls
  exact lv_aload hC.1 hC.2.1 d (hls.at (i := 13) rfl) (k p e s m args below meth c r0 r H locs ls hC hZ hW hR hlo hls)
theorem V_an13 (q : Nat) {a0 a1 a2 a3 a4 a5 a6 a7 a8 a9 a10 a11 a12 : Option Value} {t : List (Option Value)}  (d : decode cc pc = .ok (.aload 13, 2)) (hq : pc + 2 = q) (k : V l G y cc nL ret R mc ms Z post L M cells slots (a0 :: a1 :: a2 :: a3 :: a4 :: a5 :: a6 :: a7 :: a8 :: a9 :: a10 :: a11 :: a12 :: some (.null) :: t) q (.null :: st)) : V l G y cc nL ret R mc ms Z post L M cells slots (a0 :: a1 :: a2 :: a3 :: a4 :: a5 :: a6 :: a7 :: a8 :: a9 :: a10 :: a11 :: a12 :: some (.null) :: t) pc (st) := by
  subst hq
  intro p e s m args below meth c r0 r H locs ls hC hZ hW hR hlo hls
  exact lv_aloadN hC.1 hC.2.1 d (hls.at (i := 13) rfl) (k p e s m args below meth c r0 r H locs ls hC hZ hW hR hlo hls)
theorem V_is13 (q : Nat) {a0 a1 a2 a3 a4 a5 a6 a7 a8 a9 a10 a11 a12 b : Option Value} {t : List (Option Value)} {x : Int32} (d : decode cc pc = .ok (.istore 13, 2)) (hn : 13 < nL) (hq : pc + 2 = q) (k : V l G y cc nL ret R mc ms Z post L M cells slots (a0 :: a1 :: a2 :: a3 :: a4 :: a5 :: a6 :: a7 :: a8 :: a9 :: a10 :: a11 :: a12 :: some (.int x) :: t) q st) : V l G y cc nL ret R mc ms Z post L M cells slots (a0 :: a1 :: a2 :: a3 :: a4 :: a5 :: a6 :: a7 :: a8 :: a9 :: a10 :: a11 :: a12 :: b :: t) pc (.int x :: st) := by
  subst hq
  intro p e s m args below meth c r0 r H locs ls hC hZ hW hR hlo hls
  exact lv_istore hC.1 hC.2.1 d hls.1 hn rfl (fun ls' h' => k p e s m args below meth c r0 r H locs ls' hC hZ hW hR hlo (gH.set (i := 13) (v := .int x) hls.2 rfl h'))
theorem V_as13 (q : Nat) {a0 a1 a2 a3 a4 a5 a6 a7 a8 a9 a10 a11 a12 b : Option Value} {t : List (Option Value)} {x : Nat} (d : decode cc pc = .ok (.astore 13, 2)) (hn : 13 < nL) (hq : pc + 2 = q) (k : V l G y cc nL ret R mc ms Z post L M cells slots (a0 :: a1 :: a2 :: a3 :: a4 :: a5 :: a6 :: a7 :: a8 :: a9 :: a10 :: a11 :: a12 :: some (.ref x) :: t) q st) : V l G y cc nL ret R mc ms Z post L M cells slots (a0 :: a1 :: a2 :: a3 :: a4 :: a5 :: a6 :: a7 :: a8 :: a9 :: a10 :: a11 :: a12 :: b :: t) pc (.ref x :: st) := by
  subst hq
  intro p e s m args below meth c r0 r H locs ls hC hZ hW hR hlo hls
  exact lv_astore hC.1 hC.2.1 d hls.1 hn rfl (fun ls' h' => k p e s m args below meth c r0 r H locs ls' hC hZ hW hR hlo (gH.set (i := 13) (v := .ref x) hls.2 rfl h'))
theorem V_az13 (q : Nat) {a0 a1 a2 a3 a4 a5 a6 a7 a8 a9 a10 a11 a12 b : Option Value} {t : List (Option Value)}  (d : decode cc pc = .ok (.astore 13, 2)) (hn : 13 < nL) (hq : pc + 2 = q) (k : V l G y cc nL ret R mc ms Z post L M cells slots (a0 :: a1 :: a2 :: a3 :: a4 :: a5 :: a6 :: a7 :: a8 :: a9 :: a10 :: a11 :: a12 :: some (.null) :: t) q st) : V l G y cc nL ret R mc ms Z post L M cells slots (a0 :: a1 :: a2 :: a3 :: a4 :: a5 :: a6 :: a7 :: a8 :: a9 :: a10 :: a11 :: a12 :: b :: t) pc (.null :: st) := by
  subst hq
  intro p e s m args below meth c r0 r H locs ls hC hZ hW hR hlo hls
  exact lv_astoreN hC.1 hC.2.1 d hls.1 hn rfl (fun ls' h' => k p e s m args below meth c r0 r H locs ls' hC hZ hW hR hlo (gH.set (i := 13) (v := .null) hls.2 rfl h'))
theorem V_ii13 (q : Nat) {a0 a1 a2 a3 a4 a5 a6 a7 a8 a9 a10 a11 a12 : Option Value} {t : List (Option Value)} {x v : Int32} {n : Int} (d : decode cc pc = .ok (.iinc 13 n, 3)) (hn : 13 < nL) (hv : Int32.ofInt n = v) (hq : pc + 3 = q) (k : V l G y cc nL ret R mc ms Z post L M cells slots (a0 :: a1 :: a2 :: a3 :: a4 :: a5 :: a6 :: a7 :: a8 :: a9 :: a10 :: a11 :: a12 :: some (.int (x + v)) :: t) q st) : V l G y cc nL ret R mc ms Z post L M cells slots (a0 :: a1 :: a2 :: a3 :: a4 :: a5 :: a6 :: a7 :: a8 :: a9 :: a10 :: a11 :: a12 :: some (.int x) :: t) pc st := by
  subst hq
  subst hv
  intro p e s m args below meth c r0 r H locs ls hC hZ hW hR hlo hls
  obtain ⟨k9, hk9⟩ := List.getElem?_of_mem (gP_mem.mpr ⟨.int x, rfl, rfl⟩ : (13, Value.int x) ∈ gP r (a0 :: a1 :: a2 :: a3 :: a4 :: a5 :: a6 :: a7 :: a8 :: a9 :: a10 :: a11 :: a12 :: some (.int x) :: t))
  exact lv_iinc hC.1 hC.2.1 d hls.1 hk9 rfl hn rfl (fun ls' h' => k p e s m args below meth c r0 r H locs ls' hC hZ hW hR hlo (gH.set (i := 13) (v := .int (x + Int32.ofInt n)) hls.2 rfl h'))
theorem V_il14 (q : Nat) {a0 a1 a2 a3 a4 a5 a6 a7 a8 a9 a10 a11 a12 a13 : Option Value} {t : List (Option Value)} {x : Int32} (d : decode cc pc = .ok (.iload 14, 2)) (hq : pc + 2 = q) (k : V l G y cc nL ret R mc ms Z post L M cells slots (a0 :: a1 :: a2 :: a3 :: a4 :: a5 :: a6 :: a7 :: a8 :: a9 :: a10 :: a11 :: a12 :: a13 :: some (.int x) :: t) q (.int x :: st)) : V l G y cc nL ret R mc ms Z post L M cells slots (a0 :: a1 :: a2 :: a3 :: a4 :: a5 :: a6 :: a7 :: a8 :: a9 :: a10 :: a11 :: a12 :: a13 :: some (.int x) :: t) pc (st) := by
  subst hq
  intro p e s m args below meth c r0 r H locs ls hC hZ hW hR hlo hls
  exact lv_iload hC.1 hC.2.1 d (hls.at (i := 14) rfl) (k p e s m args below meth c r0 r H locs ls hC hZ hW hR hlo hls)
theorem V_al14 (q : Nat) {a0 a1 a2 a3 a4 a5 a6 a7 a8 a9 a10 a11 a12 a13 : Option Value} {t : List (Option Value)} {x : Nat} (d : decode cc pc = .ok (.aload 14, 2)) (hq : pc + 2 = q) (k : V l G y cc nL ret R mc ms Z post L M cells slots (a0 :: a1 :: a2 :: a3 :: a4 :: a5 :: a6 :: a7 :: a8 :: a9 :: a10 :: a11 :: a12 :: a13 :: some (.ref x) :: t) q (.ref x :: st)) : V l G y cc nL ret R mc ms Z post L M cells slots (a0 :: a1 :: a2 :: a3 :: a4 :: a5 :: a6 :: a7 :: a8 :: a9 :: a10 :: a11 :: a12 :: a13 :: some (.ref x) :: t) pc (st) := by
  subst hq
  intro p e s m args below meth c r0 r H locs ls hC hZ hW hR hlo hls
  exact lv_aload hC.1 hC.2.1 d (hls.at (i := 14) rfl) (k p e s m args below meth c r0 r H locs ls hC hZ hW hR hlo hls)
theorem V_an14 (q : Nat) {a0 a1 a2 a3 a4 a5 a6 a7 a8 a9 a10 a11 a12 a13 : Option Value} {t : List (Option Value)}  (d : decode cc pc = .ok (.aload 14, 2)) (hq : pc + 2 = q) (k : V l G y cc nL ret R mc ms Z post L M cells slots (a0 :: a1 :: a2 :: a3 :: a4 :: a5 :: a6 :: a7 :: a8 :: a9 :: a10 :: a11 :: a12 :: a13 :: some (.null) :: t) q (.null :: st)) : V l G y cc nL ret R mc ms Z post L M cells slots (a0 :: a1 :: a2 :: a3 :: a4 :: a5 :: a6 :: a7 :: a8 :: a9 :: a10 :: a11 :: a12 :: a13 :: some (.null) :: t) pc (st) := by
  subst hq
  intro p e s m args below meth c r0 r H locs ls hC hZ hW hR hlo hls
  exact lv_aloadN hC.1 hC.2.1 d (hls.at (i := 14) rfl) (k p e s m args below meth c r0 r H locs ls hC hZ hW hR hlo hls)
theorem V_is14 (q : Nat) {a0 a1 a2 a3 a4 a5 a6 a7 a8 a9 a10 a11 a12 a13 b : Option Value} {t : List (Option Value)} {x : Int32} (d : decode cc pc = .ok (.istore 14, 2)) (hn : 14 < nL) (hq : pc + 2 = q) (k : V l G y cc nL ret R mc ms Z post L M cells slots (a0 :: a1 :: a2 :: a3 :: a4 :: a5 :: a6 :: a7 :: a8 :: a9 :: a10 :: a11 :: a12 :: a13 :: some (.int x) :: t) q st) : V l G y cc nL ret R mc ms Z post L M cells slots (a0 :: a1 :: a2 :: a3 :: a4 :: a5 :: a6 :: a7 :: a8 :: a9 :: a10 :: a11 :: a12 :: a13 :: b :: t) pc (.int x :: st) := by
  subst hq
  intro p e s m args below meth c r0 r H locs ls hC hZ hW hR hlo hls
  exact lv_istore hC.1 hC.2.1 d hls.1 hn rfl (fun ls' h' => k p e s m args below meth c r0 r H locs ls' hC hZ hW hR hlo (gH.set (i := 14) (v := .int x) hls.2 rfl h'))
theorem V_as14 (q : Nat) {a0 a1 a2 a3 a4 a5 a6 a7 a8 a9 a10 a11 a12 a13 b : Option Value} {t : List (Option Value)} {x : Nat} (d : decode cc pc = .ok (.astore 14, 2)) (hn : 14 < nL) (hq : pc + 2 = q) (k : V l G y cc nL ret R mc ms Z post L M cells slots (a0 :: a1 :: a2 :: a3 :: a4 :: a5 :: a6 :: a7 :: a8 :: a9 :: a10 :: a11 :: a12 :: a13 :: some (.ref x) :: t) q st) : V l G y cc nL ret R mc ms Z post L M cells slots (a0 :: a1 :: a2 :: a3 :: a4 :: a5 :: a6 :: a7 :: a8 :: a9 :: a10 :: a11 :: a12 :: a13 :: b :: t) pc (.ref x :: st) := by
  subst hq
  intro p e s m args below meth c r0 r H locs ls hC hZ hW hR hlo hls
  exact lv_astore hC.1 hC.2.1 d hls.1 hn rfl (fun ls' h' => k p e s m args below meth c r0 r H locs ls' hC hZ hW hR hlo (gH.set (i := 14) (v := .ref x) hls.2 rfl h'))
theorem V_az14 (q : Nat) {a0 a1 a2 a3 a4 a5 a6 a7 a8 a9 a10 a11 a12 a13 b : Option Value} {t : List (Option Value)}  (d : decode cc pc = .ok (.astore 14, 2)) (hn : 14 < nL) (hq : pc + 2 = q) (k : V l G y cc nL ret R mc ms Z post L M cells slots (a0 :: a1 :: a2 :: a3 :: a4 :: a5 :: a6 :: a7 :: a8 :: a9 :: a10 :: a11 :: a12 :: a13 :: some (.null) :: t) q st) : V l G y cc nL ret R mc ms Z post L M cells slots (a0 :: a1 :: a2 :: a3 :: a4 :: a5 :: a6 :: a7 :: a8 :: a9 :: a10 :: a11 :: a12 :: a13 :: b :: t) pc (.null :: st) := by
  subst hq
  intro p e s m args below meth c r0 r H locs ls hC hZ hW hR hlo hls
  exact lv_astoreN hC.1 hC.2.1 d hls.1 hn rfl (fun ls' h' => k p e s m args below meth c r0 r H locs ls' hC hZ hW hR hlo (gH.set (i := 14) (v := .null) hls.2 rfl h'))
theorem V_ii14 (q : Nat) {a0 a1 a2 a3 a4 a5 a6 a7 a8 a9 a10 a11 a12 a13 : Option Value} {t : List (Option Value)} {x v : Int32} {n : Int} (d : decode cc pc = .ok (.iinc 14 n, 3)) (hn : 14 < nL) (hv : Int32.ofInt n = v) (hq : pc + 3 = q) (k : V l G y cc nL ret R mc ms Z post L M cells slots (a0 :: a1 :: a2 :: a3 :: a4 :: a5 :: a6 :: a7 :: a8 :: a9 :: a10 :: a11 :: a12 :: a13 :: some (.int (x + v)) :: t) q st) : V l G y cc nL ret R mc ms Z post L M cells slots (a0 :: a1 :: a2 :: a3 :: a4 :: a5 :: a6 :: a7 :: a8 :: a9 :: a10 :: a11 :: a12 :: a13 :: some (.int x) :: t) pc st := by
  subst hq
  subst hv
  intro p e s m args below meth c r0 r H locs ls hC hZ hW hR hlo hls
  obtain ⟨k9, hk9⟩ := List.getElem?_of_mem (gP_mem.mpr ⟨.int x, rfl, rfl⟩ : (14, Value.int x) ∈ gP r (a0 :: a1 :: a2 :: a3 :: a4 :: a5 :: a6 :: a7 :: a8 :: a9 :: a10 :: a11 :: a12 :: a13 :: some (.int x) :: t))
  exact lv_iinc hC.1 hC.2.1 d hls.1 hk9 rfl hn rfl (fun ls' h' => k p e s m args below meth c r0 r H locs ls' hC hZ hW hR hlo (gH.set (i := 14) (v := .int (x + Int32.ofInt n)) hls.2 rfl h'))
theorem V_il15 (q : Nat) {a0 a1 a2 a3 a4 a5 a6 a7 a8 a9 a10 a11 a12 a13 a14 : Option Value} {t : List (Option Value)} {x : Int32} (d : decode cc pc = .ok (.iload 15, 2)) (hq : pc + 2 = q) (k : V l G y cc nL ret R mc ms Z post L M cells slots (a0 :: a1 :: a2 :: a3 :: a4 :: a5 :: a6 :: a7 :: a8 :: a9 :: a10 :: a11 :: a12 :: a13 :: a14 :: some (.int x) :: t) q (.int x :: st)) : V l G y cc nL ret R mc ms Z post L M cells slots (a0 :: a1 :: a2 :: a3 :: a4 :: a5 :: a6 :: a7 :: a8 :: a9 :: a10 :: a11 :: a12 :: a13 :: a14 :: some (.int x) :: t) pc (st) := by
  subst hq
  intro p e s m args below meth c r0 r H locs ls hC hZ hW hR hlo hls
  exact lv_iload hC.1 hC.2.1 d (hls.at (i := 15) rfl) (k p e s m args below meth c r0 r H locs ls hC hZ hW hR hlo hls)
theorem V_al15 (q : Nat) {a0 a1 a2 a3 a4 a5 a6 a7 a8 a9 a10 a11 a12 a13 a14 : Option Value} {t : List (Option Value)} {x : Nat} (d : decode cc pc = .ok (.aload 15, 2)) (hq : pc + 2 = q) (k : V l G y cc nL ret R mc ms Z post L M cells slots (a0 :: a1 :: a2 :: a3 :: a4 :: a5 :: a6 :: a7 :: a8 :: a9 :: a10 :: a11 :: a12 :: a13 :: a14 :: some (.ref x) :: t) q (.ref x :: st)) : V l G y cc nL ret R mc ms Z post L M cells slots (a0 :: a1 :: a2 :: a3 :: a4 :: a5 :: a6 :: a7 :: a8 :: a9 :: a10 :: a11 :: a12 :: a13 :: a14 :: some (.ref x) :: t) pc (st) := by
  subst hq
  intro p e s m args below meth c r0 r H locs ls hC hZ hW hR hlo hls
  exact lv_aload hC.1 hC.2.1 d (hls.at (i := 15) rfl) (k p e s m args below meth c r0 r H locs ls hC hZ hW hR hlo hls)
theorem V_an15 (q : Nat) {a0 a1 a2 a3 a4 a5 a6 a7 a8 a9 a10 a11 a12 a13 a14 : Option Value} {t : List (Option Value)}  (d : decode cc pc = .ok (.aload 15, 2)) (hq : pc + 2 = q) (k : V l G y cc nL ret R mc ms Z post L M cells slots (a0 :: a1 :: a2 :: a3 :: a4 :: a5 :: a6 :: a7 :: a8 :: a9 :: a10 :: a11 :: a12 :: a13 :: a14 :: some (.null) :: t) q (.null :: st)) : V l G y cc nL ret R mc ms Z post L M cells slots (a0 :: a1 :: a2 :: a3 :: a4 :: a5 :: a6 :: a7 :: a8 :: a9 :: a10 :: a11 :: a12 :: a13 :: a14 :: some (.null) :: t) pc (st) := by
  subst hq
  intro p e s m args below meth c r0 r H locs ls hC hZ hW hR hlo hls
  exact lv_aloadN hC.1 hC.2.1 d (hls.at (i := 15) rfl) (k p e s m args below meth c r0 r H locs ls hC hZ hW hR hlo hls)
theorem V_is15 (q : Nat) {a0 a1 a2 a3 a4 a5 a6 a7 a8 a9 a10 a11 a12 a13 a14 b : Option Value} {t : List (Option Value)} {x : Int32} (d : decode cc pc = .ok (.istore 15, 2)) (hn : 15 < nL) (hq : pc + 2 = q) (k : V l G y cc nL ret R mc ms Z post L M cells slots (a0 :: a1 :: a2 :: a3 :: a4 :: a5 :: a6 :: a7 :: a8 :: a9 :: a10 :: a11 :: a12 :: a13 :: a14 :: some (.int x) :: t) q st) : V l G y cc nL ret R mc ms Z post L M cells slots (a0 :: a1 :: a2 :: a3 :: a4 :: a5 :: a6 :: a7 :: a8 :: a9 :: a10 :: a11 :: a12 :: a13 :: a14 :: b :: t) pc (.int x :: st) := by
  subst hq
  intro p e s m args below meth c r0 r H locs ls hC hZ hW hR hlo hls
  exact lv_istore hC.1 hC.2.1 d hls.1 hn rfl (fun ls' h' => k p e s m args below meth c r0 r H locs ls' hC hZ hW hR hlo (gH.set (i := 15) (v := .int x) hls.2 rfl h'))
theorem V_as15 (q : Nat) {a0 a1 a2 a3 a4 a5 a6 a7 a8 a9 a10 a11 a12 a13 a14 b : Option Value} {t : List (Option Value)} {x : Nat} (d : decode cc pc = .ok (.astore 15, 2)) (hn : 15 < nL) (hq : pc + 2 = q) (k : V l G y cc nL ret R mc ms Z post L M cells slots (a0 :: a1 :: a2 :: a3 :: a4 :: a5 :: a6 :: a7 :: a8 :: a9 :: a10 :: a11 :: a12 :: a13 :: a14 :: some (.ref x) :: t) q st) : V l G y cc nL ret R mc ms Z post L M cells slots (a0 :: a1 :: a2 :: a3 :: a4 :: a5 :: a6 :: a7 :: a8 :: a9 :: a10 :: a11 :: a12 :: a13 :: a14 :: b :: t) pc (.ref x :: st) := by
  subst hq
  intro p e s m args below meth c r0 r H locs ls hC hZ hW hR hlo hls
  exact lv_astore hC.1 hC.2.1 d hls.1 hn rfl (fun ls' h' => k p e s m args below meth c r0 r H locs ls' hC hZ hW hR hlo (gH.set (i := 15) (v := .ref x) hls.2 rfl h'))
theorem V_az15 (q : Nat) {a0 a1 a2 a3 a4 a5 a6 a7 a8 a9 a10 a11 a12 a13 a14 b : Option Value} {t : List (Option Value)}  (d : decode cc pc = .ok (.astore 15, 2)) (hn : 15 < nL) (hq : pc + 2 = q) (k : V l G y cc nL ret R mc ms Z post L M cells slots (a0 :: a1 :: a2 :: a3 :: a4 :: a5 :: a6 :: a7 :: a8 :: a9 :: a10 :: a11 :: a12 :: a13 :: a14 :: some (.null) :: t) q st) : V l G y cc nL ret R mc ms Z post L M cells slots (a0 :: a1 :: a2 :: a3 :: a4 :: a5 :: a6 :: a7 :: a8 :: a9 :: a10 :: a11 :: a12 :: a13 :: a14 :: b :: t) pc (.null :: st) := by
  subst hq
  intro p e s m args below meth c r0 r H locs ls hC hZ hW hR hlo hls
  exact lv_astoreN hC.1 hC.2.1 d hls.1 hn rfl (fun ls' h' => k p e s m args below meth c r0 r H locs ls' hC hZ hW hR hlo (gH.set (i := 15) (v := .null) hls.2 rfl h'))
theorem V_ii15 (q : Nat) {a0 a1 a2 a3 a4 a5 a6 a7 a8 a9 a10 a11 a12 a13 a14 : Option Value} {t : List (Option Value)} {x v : Int32} {n : Int} (d : decode cc pc = .ok (.iinc 15 n, 3)) (hn : 15 < nL) (hv : Int32.ofInt n = v) (hq : pc + 3 = q) (k : V l G y cc nL ret R mc ms Z post L M cells slots (a0 :: a1 :: a2 :: a3 :: a4 :: a5 :: a6 :: a7 :: a8 :: a9 :: a10 :: a11 :: a12 :: a13 :: a14 :: some (.int (x + v)) :: t) q st) : V l G y cc nL ret R mc ms Z post L M cells slots (a0 :: a1 :: a2 :: a3 :: a4 :: a5 :: a6 :: a7 :: a8 :: a9 :: a10 :: a11 :: a12 :: a13 :: a14 :: some (.int x) :: t) pc st := by
  subst hq
  subst hv
  intro p e s m args below meth c r0 r H locs ls hC hZ hW hR hlo hls
  obtain ⟨k9, hk9⟩ := List.getElem?_of_mem (gP_mem.mpr ⟨.int x, rfl, rfl⟩ : (15, Value.int x) ∈ gP r (a0 :: a1 :: a2 :: a3 :: a4 :: a5 :: a6 :: a7 :: a8 :: a9 :: a10 :: a11 :: a12 :: a13 :: a14 :: some (.int x) :: t))
  exact lv_iinc hC.1 hC.2.1 d hls.1 hk9 rfl hn rfl (fun ls' h' => k p e s m args below meth c r0 r H locs ls' hC hZ hW hR hlo (gH.set (i := 15) (v := .int (x + Int32.ofInt n)) hls.2 rfl h'))
theorem V_il16 (q : Nat) {a0 a1 a2 a3 a4 a5 a6 a7 a8 a9 a10 a11 a12 a13 a14 a15 : Option Value} {t : List (Option Value)} {x : Int32} (d : decode cc pc = .ok (.iload 16, 2)) (hq : pc + 2 = q) (k : V l G y cc nL ret R mc ms Z post L M cells slots (a0 :: a1 :: a2 :: a3 :: a4 :: a5 :: a6 :: a7 :: a8 :: a9 :: a10 :: a11 :: a12 :: a13 :: a14 :: a15 :: some (.int x) :: t) q (.int x :: st)) : V l G y cc nL ret R mc ms Z post L M cells slots (a0 :: a1 :: a2 :: a3 :: a4 :: a5 :: a6 :: a7 :: a8 :: a9 :: a10 :: a11 :: a12 :: a13 :: a14 :: a15 :: some (.int x) :: t) pc (st) := by
  subst hq
  intro p e s m args below meth c r0 r H locs ls hC hZ hW hR hlo hls
  exact lv_iload hC.1 hC.2.1 d (hls.at (i := 16) rfl) (k p e s m args below meth c r0 r H locs ls hC hZ hW hR hlo hls)
theorem V_al16 (q : Nat) {a0 a1 a2 a3 a4 a5 a6 a7 a8 a9 a10 a11 a12 a13 a14 a15 : Option Value} {t : List (Option Value)} {x : Nat} (d : decode cc pc = .ok (.aload 16, 2)) (hq : pc + 2 = q) (k : V l G y cc nL ret R mc ms Z post L M cells slots (a0 :: a1 :: a2 :: a3 :: a4 :: a5 :: a6 :: a7 :: a8 :: a9 :: a10 :: a11 :: a12 :: a13 :: a14 :: a15 :: some (.ref x) :: t) q (.ref x :: st)) : V l G y cc nL ret R mc ms Z post L M cells slots (a0 :: a1 :: a2 :: a3 :: a4 :: a5 :: a6 :: a7 :: a8 :: a9 :: a10 :: a11 :: a12 :: a13 :: a14 :: a15 :: some (.ref x) :: t) pc (st) := by
  subst hq
  intro p e s m args below meth c r0 r H locs ls hC hZ hW hR hlo hls
  exact lv_aload hC.1 hC.2.1 d (hls.at (i := 16) rfl) (k p e s m args below meth c r0 r H locs ls hC hZ hW hR hlo hls)
theorem V_an16 (q : Nat) {a0 a1 a2 a3 a4 a5 a6 a7 a8 a9 a10 a11 a12 a13 a14 a15 : Option Value} {t : List (Option Value)}  (d : decode cc pc = .ok (.aload 16, 2)) (hq : pc + 2 = q) (k : V l G y cc nL ret R mc ms Z post L M cells slots (a0 :: a1 :: a2 :: a3 :: a4 :: a5 :: a6 :: a7 :: a8 :: a9 :: a10 :: a11 :: a12 :: a13 :: a14 :: a15 :: some (.null) :: t) q (.null :: st)) : V l G y cc nL ret R mc ms Z post L M cells slots (a0 :: a1 :: a2 :: a3 :: a4 :: a5 :: a6 :: a7 :: a8 :: a9 :: a10 :: a11 :: a12 :: a13 :: a14 :: a15 :: some (.null) :: t) pc (st) := by
  subst hq
  intro p e s m args below meth c r0 r H locs ls hC hZ hW hR hlo hls
  exact lv_aloadN hC.1 hC.2.1 d (hls.at (i := 16) rfl) (k p e s m args below meth c r0 r H locs ls hC hZ hW hR hlo hls)
theorem V_is16 (q : Nat) {a0 a1 a2 a3 a4 a5 a6 a7 a8 a9 a10 a11 a12 a13 a14 a15 b : Option Value} {t : List (Option Value)} {x : Int32} (d : decode cc pc = .ok (.istore 16, 2)) (hn : 16 < nL) (hq : pc + 2 = q) (k : V l G y cc nL ret R mc ms Z post L M cells slots (a0 :: a1 :: a2 :: a3 :: a4 :: a5 :: a6 :: a7 :: a8 :: a9 :: a10 :: a11 :: a12 :: a13 :: a14 :: a15 :: some (.int x) :: t) q st) : V l G y cc nL ret R mc ms Z post L M cells slots (a0 :: a1 :: a2 :: a3 :: a4 :: a5 :: a6 :: a7 :: a8 :: a9 :: a10 :: a11 :: a12 :: a13 :: a14 :: a15 :: b :: t) pc (.int x :: st) := by
  subst hq
  intro p e s m args below meth c r0 r H locs ls hC hZ hW hR hlo hls
  exact lv_istore hC.1 hC.2.1 d hls.1 hn rfl (fun ls' h' => k p e s m args below meth c r0 r H locs ls' hC hZ hW hR hlo (gH.set (i := 16) (v := .int x) hls.2 rfl h'))
theorem V_as16 (q : Nat) {a0 a1 a2 a3 a4 a5 a6 a7 a8 a9 a10 a11 a12 a13 a14 a15 b : Option Value} {t : List (Option Value)} {x : Nat} (d : decode cc pc = .ok (.astore 16, 2)) (hn : 16 < nL) (hq : pc + 2 = q) (k : V l G y cc nL ret R mc ms Z post L M cells slots (a0 :: a1 :: a2 :: a3 :: a4 :: a5 :: a6 :: a7 :: a8 :: a9 :: a10 :: a11 :: a12 :: a13 :: a14 :: a15 :: some (.ref x) :: t) q st) : V l G y cc nL ret R mc ms Z post L M cells slots (a0 :: a1 :: a2 :: a3 :: a4 :: a5 :: a6 :: a7 :: a8 :: a9 :: a10 :: a11 :: a12 :: a13 :: a14 :: a15 :: b :: t) pc (.ref x :: st) := by
  subst hq
  intro p e s m args below meth c r0 r H locs ls hC hZ hW hR hlo hls
  exact lv_astore hC.1 hC.2.1 d hls.1 hn rfl (fun ls' h' => k p e s m args below meth c r0 r H locs ls' hC hZ hW hR hlo (gH.set (i := 16) (v := .ref x) hls.2 rfl h'))
theorem V_az16 (q : Nat) {a0 a1 a2 a3 a4 a5 a6 a7 a8 a9 a10 a11 a12 a13 a14 a15 b : Option Value} {t : List (Option Value)}  (d : decode cc pc = .ok (.astore 16, 2)) (hn : 16 < nL) (hq : pc + 2 = q) (k : V l G y cc nL ret R mc ms Z post L M cells slots (a0 :: a1 :: a2 :: a3 :: a4 :: a5 :: a6 :: a7 :: a8 :: a9 :: a10 :: a11 :: a12 :: a13 :: a14 :: a15 :: some (.null) :: t) q st) : V l G y cc nL ret R mc ms Z post L M cells slots (a0 :: a1 :: a2 :: a3 :: a4 :: a5 :: a6 :: a7 :: a8 :: a9 :: a10 :: a11 :: a12 :: a13 :: a14 :: a15 :: b :: t) pc (.null :: st) := by
  subst hq
  intro p e s m args below meth c r0 r H locs ls hC hZ hW hR hlo hls
  exact lv_astoreN hC.1 hC.2.1 d hls.1 hn rfl (fun ls' h' => k p e s m args below meth c r0 r H locs ls' hC hZ hW hR hlo (gH.set (i := 16) (v := .null) hls.2 rfl h'))
theorem V_ii16 (q : Nat) {a0 a1 a2 a3 a4 a5 a6 a7 a8 a9 a10 a11 a12 a13 a14 a15 : Option Value} {t : List (Option Value)} {x v : Int32} {n : Int} (d : decode cc pc = .ok (.iinc 16 n, 3)) (hn : 16 < nL) (hv : Int32.ofInt n = v) (hq : pc + 3 = q) (k : V l G y cc nL ret R mc ms Z post L M cells slots (a0 :: a1 :: a2 :: a3 :: a4 :: a5 :: a6 :: a7 :: a8 :: a9 :: a10 :: a11 :: a12 :: a13 :: a14 :: a15 :: some (.int (x + v)) :: t) q st) : V l G y cc nL ret R mc ms Z post L M cells slots (a0 :: a1 :: a2 :: a3 :: a4 :: a5 :: a6 :: a7 :: a8 :: a9 :: a10 :: a11 :: a12 :: a13 :: a14 :: a15 :: some (.int x) :: t) pc st := by
  subst hq
  subst hv
  intro p e s m args below meth c r0 r H locs ls hC hZ hW hR hlo hls
  obtain ⟨k9, hk9⟩ := List.getElem?_of_mem (gP_mem.mpr ⟨.int x, rfl, rfl⟩ : (16, Value.int x) ∈ gP r (a0 :: a1 :: a2 :: a3 :: a4 :: a5 :: a6 :: a7 :: a8 :: a9 :: a10 :: a11 :: a12 :: a13 :: a14 :: a15 :: some (.int x) :: t))
  exact lv_iinc hC.1 hC.2.1 d hls.1 hk9 rfl hn rfl (fun ls' h' => k p e s m args below meth c r0 r H locs ls' hC hZ hW hR hlo (gH.set (i := 16) (v := .int (x + Int32.ofInt n)) hls.2 rfl h'))
theorem V_il17 (q : Nat) {a0 a1 a2 a3 a4 a5 a6 a7 a8 a9 a10 a11 a12 a13 a14 a15 a16 : Option Value} {t : List (Option Value)} {x : Int32} (d : decode cc pc = .ok (.iload 17, 2)) (hq : pc + 2 = q) (k : V l G y cc nL ret R mc ms Z post L M cells slots (a0 :: a1 :: a2 :: a3 :: a4 :: a5 :: a6 :: a7 :: a8 :: a9 :: a10 :: a11 :: a12 :: a13 :: a14 :: a15 :: a16 :: some (.int x) :: t) q (.int x :: st)) : V l G y cc nL ret R mc ms Z post L M cells slots (a0 :: a1 :: a2 :: a3 :: a4 :: a5 :: a6 :: a7 :: a8 :: a9 :: a10 :: a11 :: a12 :: a13 :: a14 :: a15 :: a16 :: some (.int x) :: t) pc (st) := by
  subst hq
  intro p e s m args below meth c r0 r H locs ls hC hZ hW hR hlo hls
  exact lv_iload hC.1 hC.2.1 d (hls.at (i := 17) rfl) (k p e s m args below meth c r0 r H locs ls hC hZ hW hR hlo hls)
theorem V_al17 (q : Nat) {a0 a1 a2 a3 a4 a5 a6 a7 a8 a9 a10 a11 a12 a13 a14 a15 a16 : Option Value} {t : List (Option Value)} {x : Nat} (d : decode cc pc = .ok (.aload 17, 2)) (hq : pc + 2 = q) (k : V l G y cc nL ret R mc ms Z post L M cells slots (a0 :: a1 :: a2 :: a3 :: a4 :: a5 :: a6 :: a7 :: a8 :: a9 :: a10 :: a11 :: a12 :: a13 :: a14 :: a15 :: a16 :: some (.ref x) :: t) q (.ref x :: st)) : V l G y cc nL ret R mc ms Z post L M cells slots (a0 :: a1 :: a2 :: a3 :: a4 :: a5 :: a6 :: a7 :: a8 :: a9 :: a10 :: a11 :: a12 :: a13 :: a14 :: a15 :: a16 :: some (.ref x) :: t) pc (st) := by
  subst hq
  intro p e s m args below meth c r0 r H locs ls hC hZ hW hR hlo hls
  exact lv_aload hC.1 hC.2.1 d (hls.at (i := 17) rfl) (k p e s m args below meth c r0 r H locs ls hC hZ hW hR hlo hls)
theorem V_an17 (q : Nat) {a0 a1 a2 a3 a4 a5 a6 a7 a8 a9 a10 a11 a12 a13 a14 a15 a16 : Option Value} {t : List (Option Value)}  (d : decode cc pc = .ok (.aload 17, 2)) (hq : pc + 2 = q) (k : V l G y cc nL ret R mc ms Z post L M cells slots (a0 :: a1 :: a2 :: a3 :: a4 :: a5 :: a6 :: a7 :: a8 :: a9 :: a10 :: a11 :: a12 :: a13 :: a14 :: a15 :: a16 :: some (.null) :: t) q (.null :: st)) : V l G y cc nL ret R mc ms Z post L M cells slots (a0 :: a1 :: a2 :: a3 :: a4 :: a5 :: a6 :: a7 :: a8 :: a9 :: a10 :: a11 :: a12 :: a13 :: a14 :: a15 :: a16 :: some (.null) :: t) pc (st) := by
  subst hq
  intro p e s m args below meth c r0 r H locs ls hC hZ hW hR hlo hls
  exact lv_aloadN hC.1 hC.2.1 d (hls.at (i := 17) rfl) (k p e s m args below meth c r0 r H locs ls hC hZ hW hR hlo hls)
theorem V_is17 (q : Nat) {a0 a1 a2 a3 a4 a5 a6 a7 a8 a9 a10 a11 a12 a13 a14 a15 a16 b : Option Value} {t : List (Option Value)} {x : Int32} (d : decode cc pc = .ok (.istore 17, 2)) (hn : 17 < nL) (hq : pc + 2 = q) (k : V l G y cc nL ret R mc ms Z post L M cells slots (a0 :: a1 :: a2 :: a3 :: a4 :: a5 :: a6 :: a7 :: a8 :: a9 :: a10 :: a11 :: a12 :: a13 :: a14 :: a15 :: a16 :: some (.int x) :: t) q st) : V l G y cc nL ret R mc ms Z post L M cells slots (a0 :: a1 :: a2 :: a3 :: a4 :: a5 :: a6 :: a7 :: a8 :: a9 :: a10 :: a11 :: a12 :: a13 :: a14 :: a15 :: a16 :: b :: t) pc (.int x :: st) := by
  subst hq
  intro p e s m args below meth c r0 r H locs ls hC hZ hW hR hlo hls
  exact lv_istore hC.1 hC.2.1 d hls.1 hn rfl (fun ls' h' => k p e s m args below meth c r0 r H locs ls' hC hZ hW hR hlo (gH.set (i := 17) (v := .int x) hls.2 rfl h'))
theorem V_as17 (q : Nat) {a0 a1 a2 a3 a4 a5 a6 a7 a8 a9 a10 a11 a12 a13 a14 a15 a16 b : Option Value} {t : List (Option Value)} {x : Nat} (d : decode cc pc = .ok (.astore 17, 2)) (hn : 17 < nL) (hq : pc + 2 = q) (k : V l G y cc nL ret R mc ms Z post L M cells slots (a0 :: a1 :: a2 :: a3 :: a4 :: a5 :: a6 :: a7 :: a8 :: a9 :: a10 :: a11 :: a12 :: a13 :: a14 :: a15 :: a16 :: some (.ref x) :: t) q st) : V l G y cc nL ret R mc ms Z post L M cells slots (a0 :: a1 :: a2 :: a3 :: a4 :: a5 :: a6 :: a7 :: a8 :: a9 :: a10 :: a11 :: a12 :: a13 :: a14 :: a15 :: a16 :: b :: t) pc (.ref x :: st) := by
  subst hq
  intro p e s m args below meth c r0 r H locs ls hC hZ hW hR hlo hls
  exact lv_astore hC.1 hC.2.1 d hls.1 hn rfl (fun ls' h' => k p e s m args below meth c r0 r H locs ls' hC hZ hW hR hlo (gH.set (i := 17) (v := .ref x) hls.2 rfl h'))
theorem V_az17 (q : Nat) {a0 a1 a2 a3 a4 a5 a6 a7 a8 a9 a10 a11 a12 a13 a14 a15 a16 b : Option Value} {t : List (Option Value)}  (d : decode cc pc = .ok (.astore 17, 2)) (hn : 17 < nL) (hq : pc + 2 = q) (k : V l G y cc nL ret R mc ms Z post L M cells slots (a0 :: a1 :: a2 :: a3 :: a4 :: a5 :: a6 :: a7 :: a8 :: a9 :: a10 :: a11 :: a12 :: a13 :: a14 :: a15 :: a16 :: some (.null) :: t) q st) : V l G y cc nL ret R mc ms Z post L M cells slots (a0 :: a1 :: a2 :: a3 :: a4 :: a5 :: a6 :: a7 :: a8 :: a9 :: a10 :: a11 :: a12 :: a13 :: a14 :: a15 :: a16 :: b :: t) pc (.null :: st) := by
  subst hq
  intro p e s m args below meth c r0 r H locs ls hC hZ hW hR hlo hls
  exact lv_astoreN hC.1 hC.2.1 d hls.1 hn rfl (fun ls' h' => k p e s m args below meth c r0 r H locs ls' hC hZ hW hR hlo (gH.set (i := 17) (v := .null) hls.2 rfl h'))
theorem V_ii17 (q : Nat) {a0 a1 a2 a3 a4 a5 a6 a7 a8 a9 a10 a11 a12 a13 a14 a15 a16 : Option Value} {t : List (Option Value)} {x v : Int32} {n : Int} (d : decode cc pc = .ok (.iinc 17 n, 3)) (hn : 17 < nL) (hv : Int32.ofInt n = v) (hq : pc + 3 = q) (k : V l G y cc nL ret R mc ms Z post L M cells slots (a0 :: a1 :: a2 :: a3 :: a4 :: a5 :: a6 :: a7 :: a8 :: a9 :: a10 :: a11 :: a12 :: a13 :: a14 :: a15 :: a16 :: some (.int (x + v)) :: t) q st) : V l G y cc nL ret R mc ms Z post L M cells slots (a0 :: a1 :: a2 :: a3 :: a4 :: a5 :: a6 :: a7 :: a8 :: a9 :: a10 :: a11 :: a12 :: a13 :: a14 :: a15 :: a16 :: some (.int x) :: t) pc st := by
  subst hq
  subst hv
  intro p e s m args below meth c r0 r H locs ls hC hZ hW hR hlo hls
  obtain ⟨k9, hk9⟩ := List.getElem?_of_mem (gP_mem.mpr ⟨.int x, rfl, rfl⟩ : (17, Value.int x) ∈ gP r (a0 :: a1 :: a2 :: a3 :: a4 :: a5 :: a6 :: a7 :: a8 :: a9 :: a10 :: a11 :: a12 :: a13 :: a14 :: a15 :: a16 :: some (.int x) :: t))
  exact lv_iinc hC.1 hC.2.1 d hls.1 hk9 rfl hn rfl (fun ls' h' => k p e s m args below meth c r0 r H locs ls' hC hZ hW hR hlo (gH.set (i := 17) (v := .int (x + Int32.ofInt n)) hls.2 rfl h'))
theorem V_il18 (q : Nat) {a0 a1 a2 a3 a4 a5 a6 a7 a8 a9 a10 a11 a12 a13 a14 a15 a16 a17 : Option Value} {t : List (Option Value)} {x : Int32} (d : decode cc pc = .ok (.iload 18, 2)) (hq : pc + 2 = q) (k : V l G y cc nL ret R mc ms Z post L M cells slots (a0 :: a1 :: a2 :: a3 :: a4 :: a5 :: a6 :: a7 :: a8 :: a9 :: a10 :: a11 :: a12 :: a13 :: a14 :: a15 :: a16 :: a17 :: some (.int x) :: t) q (.int x :: st)) : V l G y cc nL ret R mc ms Z post L M cells slots (a0 :: a1 :: a2 :: a3 :: a4 :: a5 :: a6 :: a7 :: a8 :: a9 :: a10 :: a11 :: a12 :: a13 :: a14 :: a15 :: a16 :: a17 :: some (.int x) :: t) pc (st) := by
  subst hq
  intro p e s m args below meth c r0 r H locs ls hC hZ hW hR hlo hls
  exact lv_iload hC.1 hC.2.1 d (hls.at (i := 18) rfl) (k p e s m args below meth c r0 r H locs ls hC hZ hW hR hlo hls)
theorem V_al18 (q : Nat) {a0 a1 a2 a3 a4 a5 a6 a7 a8 a9 a10 a11 a12 a13 a14 a15 a16 a17 : Option Value} {t : List (Option Value)} {x : Nat} (d : decode cc pc = .ok (.aload 18, 2)) (hq : pc + 2 = q) (k : V l G y cc nL ret R mc ms Z post L M cells slots (a0 :: a1 :: a2 :: a3 :: a4 :: a5 :: a6 :: a7 :: a8 :: a9 :: a10 :: a11 :: a12 :: a13 :: a14 :: a15 :: a16 :: a17 :: some (.ref x) :: t) q (.ref x :: st)) : V l G y cc nL ret R mc ms Z post L M cells slots (a0 :: a1 :: a2 :: a3 :: a4 :: a5 :: a6 :: a7 :: a8 :: a9 :: a10 :: a11 :: a12 :: a13 :: a14 :: a15 :: a16 :: a17 :: some (.ref x) :: t) pc (st) := by
  subst hq
  intro p e s m args below meth c r0 r H locs ls hC hZ hW hR hlo hls
  exact lv_aload hC.1 hC.2.1 d (hls.at (i := 18) rfl) (k p e s m args below meth c r0 r H locs ls hC hZ hW hR hlo hls)
theorem V_an18 (q : Nat) {a0 a1 a2 a3 a4 a5 a6 a7 a8 a9 a10 a11 a12 a13 a14 a15 a16 a17 : Option Value} {t : List (Option Value)}  (d : decode cc pc = .ok (.aload 18, 2)) (hq : pc + 2 = q) (k : V l G y cc nL ret R mc ms Z post L M cells slots (a0 :: a1 :: a2 :: a3 :: a4 :: a5 :: a6 :: a7 :: a8 :: a9 :: a10 :: a11 :: a12 :: a13 :: a14 :: a15 :: a16 :: a17 :: some (.null) :: t) q (.null :: st)) : V l G y cc nL ret R mc ms Z post L M cells slots (a0 :: a1 :: a2 :: a3 :: a4 :: a5 :: a6 :: a7 :: a8 :: a9 :: a10 :: a11 :: a12 :: a13 :: a14 :: a15 :: a16 :: a17 :: some (.null) :: t) pc (st) := by
  subst hq
  intro p e s m args below meth c r0 r H locs ls hC hZ hW hR hlo hls
  exact lv_aloadN hC.1 hC.2.1 d (hls.at (i := 18) rfl) (k p e s m args below meth c r0 r H locs ls hC hZ hW hR hlo hls)
theorem V_is18 (q : Nat) {a0 a1 a2 a3 a4 a5 a6 a7 a8 a9 a10 a11 a12 a13 a14 a15 a16 a17 b : Option Value} {t : List (Option Value)} {x : Int32} (d : decode cc pc = .ok (.istore 18, 2)) (hn : 18 < nL) (hq : pc + 2 = q) (k : V l G y cc nL ret R mc ms Z post L M cells slots (a0 :: a1 :: a2 :: a3 :: a4 :: a5 :: a6 :: a7 :: a8 :: a9 :: a10 :: a11 :: a12 :: a13 :: a14 :: a15 :: a16 :: a17 :: some (.int x) :: t) q st) : V l G y cc nL ret R mc ms Z post L M cells slots (a0 :: a1 :: a2 :: a3 :: a4 :: a5 :: a6 :: a7 :: a8 :: a9 :: a10 :: a11 :: a12 :: a13 :: a14 :: a15 :: a16 :: a17 :: b :: t) pc (.int x :: st) := by
  subst hq
  intro p e s m args below meth c r0 r H locs ls hC hZ hW hR hlo hls
  exact lv_istore hC.1 hC.2.1 d hls.1 hn rfl (fun ls' h' => k p e s m args below meth c r0 r H locs ls' hC hZ hW hR hlo (gH.set (i := 18) (v := .int x) hls.2 rfl h'))
theorem V_as18 (q : Nat) {a0 a1 a2 a3 a4 a5 a6 a7 a8 a9 a10 a11 a12 a13 a14 a15 a16 a17 b : Option Value} {t : List (Option Value)} {x : Nat} (d : decode cc pc = .ok (.astore 18, 2)) (hn : 18 < nL) (hq : pc + 2 = q) (k : V l G y cc nL ret R mc ms Z post L M cells slots (a0 :: a1 :: a2 :: a3 :: a4 :: a5 :: a6 :: a7 :: a8 :: a9 :: a10 :: a11 :: a12 :: a13 :: a14 :: a15 :: a16 :: a17 :: some (.ref x) :: t) q st) : V l G y cc nL ret R mc ms Z post L M cells slots (a0 :: a1 :: a2 :: a3 :: a4 :: a5 :: a6 :: a7 :: a8 :: a9 :: a10 :: a11 :: a12 :: a13 :: a14 :: a15 :: a16 :: a17 :: b :: t) pc (.ref x :: st) := by
  subst hq
  intro p e s m args below meth c r0 r H locs ls hC hZ hW hR hlo hls
  exact lv_astore hC.1 hC.2.1 d hls.1 hn rfl (fun ls' h' => k p e s m args below meth c r0 r H locs ls' hC hZ hW hR hlo (gH.set (i := 18) (v := .ref x) hls.2 rfl h'))
theorem V_az18 (q : Nat) {a0 a1 a2 a3 a4 a5 a6 a7 a8 a9 a10 a11 a12 a13 a14 a15 a16 a17 b : Option Value} {t : List (Option Value)}  (d : decode cc pc = .ok (.astore 18, 2)) (hn : 18 < nL) (hq : pc + 2 = q) (k : V l G y cc nL ret R mc ms Z post L M cells slots (a0 :: a1 :: a2 :: a3 :: a4 :: a5 :: a6 :: a7 :: a8 :: a9 :: a10 :: a11 :: a12 :: a13 :: a14 :: a15 :: a16 :: a17 :: some (.null) :: t) q st) : V l G y cc nL ret R mc ms Z post L M cells slots (a0 :: a1 :: a2 :: a3 :: a4 :: a5 :: a6 :: a7 :: a8 :: a9 :: a10 :: a11 :: a12 :: a13 :: a14 :: a15 :: a16 :: a17 :: b :: t) pc (.null :: st) := by
  subst hq
  intro p e s m args below meth c r0 r H locs ls hC hZ hW hR hlo hls
  exact lv_astoreN hC.1 hC.2.1 d hls.1 hn rfl (fun ls' h' => k p e s m args below meth c r0 r H locs ls' hC hZ hW hR hlo (gH.set (i := 18) (v := .null) hls.2 rfl h'))
theorem V_ii18 (q : Nat) {a0 a1 a2 a3 a4 a5 a6 a7 a8 a9 a10 a11 a12 a13 a14 a15 a16 a17 : Option Value} {t : List (Option Value)} {x v : Int32} {n : Int} (d : decode cc pc = .ok (.iinc 18 n, 3)) (hn : 18 < nL) (hv : Int32.ofInt n = v) (hq : pc + 3 = q) (k : V l G y cc nL ret R mc ms Z post L M cells slots (a0 :: a1 :: a2 :: a3 :: a4 :: a5 :: a6 :: a7 :: a8 :: a9 :: a10 :: a11 :: a12 :: a13 :: a14 :: a15 :: a16 :: a17 :: some (.int (x + v)) :: t) q st) : V l G y cc nL ret R mc ms Z post L M cells slots (a0 :: a1 :: a2 :: a3 :: a4 :: a5 :: a6 :: a7 :: a8 :: a9 :: a10 :: a11 :: a12 :: a13 :: a14 :: a15 :: a16 :: a17 :: some (.int x) :: t) pc st := by
  subst hq
  subst hv
  intro p e s m args below meth c r0 r H locs ls hC hZ hW hR hlo hls
  obtain ⟨k9, hk9⟩ := List.getElem?_of_mem (gP_mem.mpr ⟨.int x, rfl, rfl⟩ : (18, Value.int x) ∈ gP r (a0 :: a1 :: a2 :: a3 :: a4 :: a5 :: a6 :: a7 :: a8 :: a9 :: a10 :: a11 :: a12 :: a13 :: a14 :: a15 :: a16 :: a17 :: some (.int x) :: t))
  exact lv_iinc hC.1 hC.2.1 d hls.1 hk9 rfl hn rfl (fun ls' h' => k p e s m args below meth c r0 r H locs ls' hC hZ hW hR hlo (gH.set (i := 18) (v := .int (x + Int32.ofInt n)) hls.2 rfl h'))
theorem V_il19 (q : Nat) {a0 a1 a2 a3 a4 a5 a6 a7 a8 a9 a10 a11 a12 a13 a14 a15 a16 a17 a18 : Option Value} {t : List (Option Value)} {x : Int32} (d : decode cc pc = .ok (.iload 19, 2)) (hq : pc + 2 = q) (k : V l G y cc nL ret R mc ms Z post L M cells slots (a0 :: a1 :: a2 :: a3 :: a4 :: a5 :: a6 :: a7 :: a8 :: a9 :: a10 :: a11 :: a12 :: a13 :: a14 :: a15 :: a16 :: a17 :: a18 :: some (.int x) :: t) q (.int x :: st)) : V l G y cc nL ret R mc ms Z post L M cells slots (a0 :: a1 :: a2 :: a3 :: a4 :: a5 :: a6 :: a7 :: a8 :: a9 :: a10 :: a11 :: a12 :: a13 :: a14 :: a15 :: a16 :: a17 :: a18 :: some (.int x) :: t) pc (st) := by
  subst hq
  intro p e s m args below meth c r0 r H locs ls hC hZ hW hR hlo hls
  exact lv_iload hC.1 hC.2.1 d (hls.at (i := 19) rfl) (k p e s m args below meth c r0 r H locs ls hC hZ hW hR hlo hls)
theorem V_al19 (q : Nat) {a0 a1 a2 a3 a4 a5 a6 a7 a8 a9 a10 a11 a12 a13 a14 a15 a16 a17 a18 : Option Value} {t : List (Option Value)} {x : Nat} (d : decode cc pc = .ok (.aload 19, 2)) (hq : pc + 2 = q) (k : V l G y cc nL ret R mc ms Z post L M cells slots (a0 :: a1 :: a2 :: a3 :: a4 :: a5 :: a6 :: a7 :: a8 :: a9 :: a10 :: a11 :: a12 :: a13 :: a14 :: a15 :: a16 :: a17 :: a18 :: some (.ref x) :: t) q (.ref x :: st)) : V l G y cc nL ret R mc ms Z post L M cells slots (a0 :: a1 :: a2 :: a3 :: a4 :: a5 :: a6 :: a7 :: a8 :: a9 :: a10 :: a11 :: a12 :: a13 :: a14 :: a15 :: a16 :: a17 :: a18 :: some (.ref x) :: t) pc (st) := by
  subst hq
  intro p e s m args below meth c r0 r H locs ls hC hZ hW hR hlo hls
  exact lv_aload hC.1 hC.2.1 d (hls.at (i := 19) rfl) (k p e s m args below meth c r0 r H locs ls hC hZ hW hR hlo hls)
theorem V_an19 (q : Nat) {a0 a1 a2 a3 a4 a5 a6 a7 a8 a9 a10 a11 a12 a13 a14 a15 a16 a17 a18 : Option Value} {t : List (Option Value)}  (d : decode cc pc = .ok (.aload 19, 2)) (hq : pc + 2 = q) (k : V l G y cc nL ret R mc ms Z post L M cells slots (a0 :: a1 :: a2 :: a3 :: a4 :: a5 :: a6 :: a7 :: a8 :: a9 :: a10 :: a11 :: a12 :: a13 :: a14 :: a15 :: a16 :: a17 :: a18 :: some (.null) :: t) q (.null :: st)) : V l G y cc nL ret R mc ms Z post L M cells slots (a0 :: a1 :: a2 :: a3 :: a4 :: a5 :: a6 :: a7 :: a8 :: a9 :: a10 :: a11 :: a12 :: a13 :: a14 :: a15 :: a16 :: a17 :: a18 :: some (.null) :: t) pc (st) := by
  subst hq
  intro p e s m args below meth c r0 r H locs ls hC hZ hW hR hlo hls
  exact lv_aloadN hC.1 hC.2.1 d (hls.at (i := 19) rfl) (k p e s m args below meth c r0 r H locs ls hC hZ hW hR hlo hls)
theorem V_is19 (q : Nat) {a0 a1 a2 a3 a4 a5 a6 a7 a8 a9 a10 a11 a12 a13 a14 a15 a16 a17 a18 b : Option Value} {t : List (Option Value)} {x : Int32} (d : decode cc pc = .ok (.istore 19, 2)) (hn : 19 < nL) (hq : pc + 2 = q) (k : V l G y cc nL ret R mc ms Z post L M cells slots (a0 :: a1 :: a2 :: a3 :: a4 :: a5 :: a6 :: a7 :: a8 :: a9 :: a10 :: a11 :: a12 :: a13 :: a14 :: a15 :: a16 :: a17 :: a18 :: some (.int x) :: t) q st) : V l G y cc nL ret R mc ms Z post L M cells slots (a0 :: a1 :: a2 :: a3 :: a4 :: a5 :: a6 :: a7 :: a8 :: a9 :: a10 :: a11 :: a12 :: a13 :: a14 :: a15 :: a16 :: a17 :: a18 :: b :: t) pc (.int x :: st) := by
  subst hq
  intro p e s m args below meth c r0 r H locs ls hC hZ hW hR hlo hls
  exact lv_istore hC.1 hC.2.1 d hls.1 hn rfl (fun ls' h' => k p e s m args below meth c r0 r H locs ls' hC hZ hW hR hlo (gH.set (i := 19) (v := .int x) hls.2 rfl h'))
theorem V_as19 (q : Nat) {a0 a1 a2 a3 a4 a5 a6 a7 a8 a9 a10 a11 a12 a13 a14 a15 a16 a17 a18 b : Option Value} {t : List (Option Value)} {x : Nat} (d : decode cc pc = .ok (.astore 19, 2)) (hn : 19 < nL) (hq : pc + 2 = q) (k : V l G y cc nL ret R mc ms Z post L M cells slots (a0 :: a1 :: a2 :: a3 :: a4 :: a5 :: a6 :: a7 :: a8 :: a9 :: a10 :: a11 :: a12 :: a13 :: a14 :: a15 :: a16 :: a17 :: a18 :: some (.ref x) :: t) q st) : V l G y cc nL ret R mc ms Z post L M cells slots (a0 :: a1 :: a2 :: a3 :: a4 :: a5 :: a6 :: a7 :: a8 :: a9 :: a10 :: a11 :: a12 :: a13 :: a14 :: a15 :: a16 :: a17 :: a18 :: b :: t) pc (.ref x :: st) := by
  subst hq
  intro p e s m args below meth c r0 r H locs ls hC hZ hW hR hlo hls
  exact lv_astore hC.1 hC.2.1 d hls.1 hn rfl (fun ls' h' => k p e s m args below meth c r0 r H locs ls' hC hZ hW hR hlo (gH.set (i := 19) (v := .ref x) hls.2 rfl h'))
theorem V_az19 (q : Nat) {a0 a1 a2 a3 a4 a5 a6 a7 a8 a9 a10 a11 a12 a13 a14 a15 a16 a17 a18 b : Option Value} {t : List (Option Value)}  (d : decode cc pc = .ok (.astore 19, 2)) (hn : 19 < nL) (hq : pc + 2 = q) (k : V l G y cc nL ret R mc ms Z post L M cells slots (a0 :: a1 :: a2 :: a3 :: a4 :: a5 :: a6 :: a7 :: a8 :: a9 :: a10 :: a11 :: a12 :: a13 :: a14 :: a15 :: a16 :: a17 :: a18 :: some (.null) :: t) q st) : V l G y cc nL ret R mc ms Z post L M cells slots (a0 :: a1 :: a2 :: a3 :: a4 :: a5 :: a6 :: a7 :: a8 :: a9 :: a10 :: a11 :: a12 :: a13 :: a14 :: a15 :: a16 :: a17 :: a18 :: b :: t) pc (.null :: st) := by
  subst hq
  intro p e s m args below meth c r0 r H locs ls hC hZ hW hR hlo hls
  exact lv_astoreN hC.1 hC.2.1 d hls.1 hn rfl (fun ls' h' => k p e s m args below meth c r0 r H locs ls' hC hZ hW hR hlo (gH.set (i := 19) (v := .null) hls.2 rfl h'))
theorem V_ii19 (q : Nat) {a0 a1 a2 a3 a4 a5 a6 a7 a8 a9 a10 a11 a12 a13 a14 a15 a16 a17 a18 : Option Value} {t : List (Option Value)} {x v : Int32} {n : Int} (d : decode cc pc = .ok (.iinc 19 n, 3)) (hn : 19 < nL) (hv : Int32.ofInt n = v) (hq : pc + 3 = q) (k : V l G y cc nL ret R mc ms Z post L M cells slots (a0 :: a1 :: a2 :: a3 :: a4 :: a5 :: a6 :: a7 :: a8 :: a9 :: a10 :: a11 :: a12 :: a13 :: a14 :: a15 :: a16 :: a17 :: a18 :: some (.int (x + v)) :: t) q st) : V l G y cc nL ret R mc ms Z post L M cells slots (a0 :: a1 :: a2 :: a3 :: a4 :: a5 :: a6 :: a7 :: a8 :: a9 :: a10 :: a11 :: a12 :: a13 :: a14 :: a15 :: a16 :: a17 :: a18 :: some (.int x) :: t) pc st := by
  subst hq
  subst hv
  intro p e s m args below meth c r0 r H locs ls hC hZ hW hR hlo hls
  obtain ⟨k9, hk9⟩ := List.getElem?_of_mem (gP_mem.mpr ⟨.int x, rfl, rfl⟩ : (19, Value.int x) ∈ gP r (a0 :: a1 :: a2 :: a3 :: a4 :: a5 :: a6 :: a7 :: a8 :: a9 :: a10 :: a11 :: a12 :: a13 :: a14 :: a15 :: a16 :: a17 :: a18 :: some (.int x) :: t))
  exact lv_iinc hC.1 hC.2.1 d hls.1 hk9 rfl hn rfl (fun ls' h' => k p e s m args below meth c r0 r H locs ls' hC hZ hW hR hlo (gH.set (i := 19) (v := .int (x + Int32.ofInt n)) hls.2 rfl h'))
theorem V_il20 (q : Nat) {a0 a1 a2 a3 a4 a5 a6 a7 a8 a9 a10 a11 a12 a13 a14 a15 a16 a17 a18 a19 : Option Value} {t : List (Option Value)} {x : Int32} (d : decode cc pc = .ok (.iload 20, 2)) (hq : pc + 2 = q) (k : V l G y cc nL ret R mc ms Z post L M cells slots (a0 :: a1 :: a2 :: a3 :: a4 :: a5 :: a6 :: a7 :: a8 :: a9 :: a10 :: a11 :: a12 :: a13 :: a14 :: a15 :: a16 :: a17 :: a18 :: a19 :: some (.int x) :: t) q (.int x :: st)) : V l G y cc nL ret R mc ms Z post L M cells slots (a0 :: a1 :: a2 :: a3 :: a4 :: a5 :: a6 :: a7 :: a8 :: a9 :: a10 :: a11 :: a12 :: a13 :: a14 :: a15 :: a16 :: a17 :: a18 :: a19 :: some (.int x) :: t) pc (st) := by
  subst hq
  intro p e s m args below meth c r0 r H locs ls hC hZ hW hR hlo hls
  exact lv_iload hC.1 hC.2.1 d (hls.at (i := 20) rfl) (k p e s m args below meth c r0 r H locs ls hC hZ hW hR hlo hls)
theorem V_al20 (q : Nat) {a0 a1 a2 a3 a4 a5 a6 a7 a8 a9 a10 a11 a12 a13 a14 a15 a16 a17 a18 a19 : Option Value} {t : List (Option Value)} {x : Nat} (d : decode cc pc = .ok (.aload 20, 2)) (hq : pc + 2 = q) (k : V l G y cc nL ret R mc ms Z post L M cells slots (a0 :: a1 :: a2 :: a3 :: a4 :: a5 :: a6 :: a7 :: a8 :: a9 :: a10 :: a11 :: a12 :: a13 :: a14 :: a15 :: a16 :: a17 :: a18 :: a19 :: some (.ref x) :: t) q (.ref x :: st)) : V l G y cc nL ret R mc ms Z post L M cells slots (a0 :: a1 :: a2 :: a3 :: a4 :: a5 :: a6 :: a7 :: a8 :: a9 :: a10 :: a11 :: a12 :: a13 :: a14 :: a15 :: a16 :: a17 :: a18 :: a19 :: some (.ref x) :: t) pc (st) := by
  subst hq
  intro p e s m args below meth c r0 r H locs ls hC hZ hW hR hlo hls
  exact lv_aload hC.1 hC.2.1 d (hls.at (i := 20) rfl) (k p e s m args below meth c r0 r H locs ls hC hZ hW hR hlo hls)
theorem V_an20 (q : Nat) {a0 a1 a2 a3 a4 a5 a6 a7 a8 a9 a10 a11 a12 a13 a14 a15 a16 a17 a18 a19 : Option Value} {t : List (Option Value)}  (d : decode cc pc = .ok (.aload 20, 2)) (hq : pc + 2 = q) (k : V l G y cc nL ret R mc ms Z post L M cells slots (a0 :: a1 :: a2 :: a3 :: a4 :: a5 :: a6 :: a7 :: a8 :: a9 :: a10 :: a11 :: a12 :: a13 :: a14 :: a15 :: a16 :: a17 :: a18 :: a19 :: some (.null) :: t) q (.null :: st)) : V l G y cc nL ret R mc ms Z post L M cells slots (a0 :: a1 :: a2 :: a3 :: a4 :: a5 :: a6 :: a7 :: a8 :: a9 :: a10 :: a11 :: a12 :: a13 :: a14 :: a15 :: a16 :: a17 :: a18 :: a19 :: some (.null) :: t) pc (st) := by
  subst hq
  intro p e s m args below meth c r0 r H locs ls hC hZ hW hR hlo hls
  exact lv_aloadN hC.1 hC.2.1 d (hls.at (i := 20) rfl) (k p e s m args below meth c r0 r H locs ls hC hZ hW hR hlo hls)
theorem V_is20 (q : Nat) {a0 a1 a2 a3 a4 a5 a6 a7 a8 a9 a10 a11 a12 a13 a14 a15 a16 a17 a18 a19 b : Option Value} {t : List (Option Value)} {x : Int32} (d : decode cc pc = .ok (.istore 20, 2)) (hn : 20 < nL) (hq : pc + 2 = q) (k : V l G y cc nL ret R mc ms Z post L M cells slots (a0 :: a1 :: a2 :: a3 :: a4 :: a5 :: a6 :: a7 :: a8 :: a9 :: a10 :: a11 :: a12 :: a13 :: a14 :: a15 :: a16 :: a17 :: a18 :: a19 :: some (.int x) :: t) q st) : V l G y cc nL ret R mc ms Z post L M cells slots (a0 :: a1 :: a2 :: a3 :: a4 :: a5 :: a6 :: a7 :: a8 :: a9 :: a10 :: a11 :: a12 :: a13 :: a14 :: a15 :: a16 :: a17 :: a18 :: a19 :: b :: t) pc (.int x :: st) := by
  subst hq
  intro p e s m args below meth c r0 r H locs ls hC hZ hW hR hlo hls
  exact lv_istore hC.1 hC.2.1 d hls.1 hn rfl (fun ls' h' => k p e s m args below meth c r0 r H locs ls' hC hZ hW hR hlo (gH.set (i := 20) (v := .int x) hls.2 rfl h'))
theorem V_as20 (q : Nat) {a0 a1 a2 a3 a4 a5 a6 a7 a8 a9 a10 a11 a12 a13 a14 a15 a16 a17 a18 a19 b : Option Value} {t : List (Option Value)} {x : Nat} (d : decode cc pc = .ok (.astore 20, 2)) (hn : 20 < nL) (hq : pc + 2 = q) (k : V l G y cc nL ret R mc ms Z post L M cells slots (a0 :: a1 :: a2 :: a3 :: a4 :: a5 :: a6 :: a7 :: a8 :: a9 :: a10 :: a11 :: a12 :: a13 :: a14 :: a15 :: a16 :: a17 :: a18 :: a19 :: some (.ref x) :: t) q st) : V l G y cc nL ret R mc ms Z post L M cells slots (a0 :: a1 :: a2 :: a3 :: a4 :: a5 :: a6 :: a7 :: a8 :: a9 :: a10 :: a11 :: a12 :: a13 :: a14 :: a15 :: a16 :: a17 :: a18 :: a19 :: b :: t) pc (.ref x :: st) := by
  subst hq
  intro p e s m args below meth c r0 r H locs ls hC hZ hW hR hlo hls
  exact lv_astore hC.1 hC.2.1 d hls.1 hn rfl (fun ls' h' => k p e s m args below meth c r0 r H locs ls' hC hZ hW hR hlo (gH.set (i := 20) (v := .ref x) hls.2 rfl h'))
theorem V_az20 (q : Nat) {a0 a1 a2 a3 a4 a5 a6 a7 a8 a9 a10 a11 a12 a13 a14 a15 a16 a17 a18 a19 b : Option Value} {t : List (Option Value)}  (d : decode cc pc = .ok (.astore 20, 2)) (hn : 20 < nL) (hq : pc + 2 = q) (k : V l G y cc nL ret R mc ms Z post L M cells slots (a0 :: a1 :: a2 :: a3 :: a4 :: a5 :: a6 :: a7 :: a8 :: a9 :: a10 :: a11 :: a12 :: a13 :: a14 :: a15 :: a16 :: a17 :: a18 :: a19 :: some (.null) :: t) q st) : V l G y cc nL ret R mc ms Z post L M cells slots (a0 :: a1 :: a2 :: a3 :: a4 :: a5 :: a6 :: a7 :: a8 :: a9 :: a10 :: a11 :: a12 :: a13 :: a14 :: a15 :: a16 :: a17 :: a18 :: a19 :: b :: t) pc (.null :: st) := by
  subst hq
  intro p e s m args below meth c r0 r H locs ls hC hZ hW hR hlo hls
  exact lv_astoreN hC.1 hC.2.1 d hls.1 hn rfl (fun ls' h' => k p e s m args below meth c r0 r H locs ls' hC hZ hW hR hlo (gH.set (i := 20) (v := .null) hls.2 rfl h'))
theorem V_ii20 (q : Nat) {a0 a1 a2 a3 a4 a5 a6 a7 a8 a9 a10 a11 a12 a13 a14 a15 a16 a17 a18 a19 : Option Value} {t : List (Option Value)} {x v : Int32} {n : Int} (d : decode cc pc = .ok (.iinc 20 n, 3)) (hn : 20 < nL) (hv : Int32.ofInt n = v) (hq : pc + 3 = q) (k : V l G y cc nL ret R mc ms Z post L M cells slots (a0 :: a1 :: a2 :: a3 :: a4 :: a5 :: a6 :: a7 :: a8 :: a9 :: a10 :: a11 :: a12 :: a13 :: a14 :: a15 :: a16 :: a17 :: a18 :: a19 :: some (.int (x + v)) :: t) q st) : V l G y cc nL ret R mc ms Z post L M cells slots (a0 :: a1 :: a2 :: a3 :: a4 :: a5 :: a6 :: a7 :: a8 :: a9 :: a10 :: a11 :: a12 :: a13 :: a14 :: a15 :: a16 :: a17 :: a18 :: a19 :: some (.int x) :: t) pc st := by
  subst hq
  subst hv
  intro p e s m args below meth c r0 r H locs ls hC hZ hW hR hlo hls
  obtain ⟨k9, hk9⟩ := List.getElem?_of_mem (gP_mem.mpr ⟨.int x, rfl, rfl⟩ : (20, Value.int x) ∈ gP r (a0 :: a1 :: a2 :: a3 :: a4 :: a5 :: a6 :: a7 :: a8 :: a9 :: a10 :: a11 :: a12 :: a13 :: a14 :: a15 :: a16 :: a17 :: a18 :: a19 :: some (.int x) :: t))
  exact lv_iinc hC.1 hC.2.1 d hls.1 hk9 rfl hn rfl (fun ls' h' => k p e s m args below meth c r0 r H locs ls' hC hZ hW hR hlo (gH.set (i := 20) (v := .int (x + Int32.ofInt n)) hls.2 rfl h'))
theorem V_il21 (q : Nat) {a0 a1 a2 a3 a4 a5 a6 a7 a8 a9 a10 a11 a12 a13 a14 a15 a16 a17 a18 a19 a20 : Option Value} {t : List (Option Value)} {x : Int32} (d : decode cc pc = .ok (.iload 21, 2)) (hq : pc + 2 = q) (k : V l G y cc nL ret R mc ms Z post L M cells slots (a0 :: a1 :: a2 :: a3 :: a4 :: a5 :: a6 :: a7 :: a8 :: a9 :: a10 :: a11 :: a12 :: a13 :: a14 :: a15 :: a16 :: a17 :: a18 :: a19 :: a20 :: some (.int x) :: t) q (.int x :: st)) : V l G y cc nL ret R mc ms Z post L M cells slots (a0 :: a1 :: a2 :: a3 :: a4 :: a5 :: a6 :: a7 :: a8 :: a9 :: a10 :: a11 :: a12 :: a13 :: a14 :: a15 :: a16 :: a17 :: a18 :: a19 :: a20 :: some (.int x) :: t) pc (st) := by
  subst hq
  intro p e s m args below meth c r0 r H locs ls hC hZ hW hR hlo hls
  exact lv_iload hC.1 hC.2.1 d (hls.at (i := 21) rfl) (k p e s m args below meth c r0 r H locs ls hC hZ hW hR hlo hls)
theorem V_al21 (q : Nat) {a0 a1 a2 a3 a4 a5 a6 a7 a8 a9 a10 a11 a12 a13 a14 a15 a16 a17 a18 a19 a20 : Option Value} {t : List (Option Value)} {x : Nat} (d : decode cc pc = .ok (.aload 21, 2)) (hq : pc + 2 = q) (k : V l G y cc nL ret R mc ms Z post L M cells slots (a0 :: a1 :: a2 :: a3 :: a4 :: a5 :: a6 :: a7 :: a8 :: a9 :: a10 :: a11 :: a12 :: a13 :: a14 :: a15 :: a16 :: a17 :: a18 :: a19 :: a20 :: some (.ref x) :: t) q (.ref x :: st)) : V l G y cc nL ret R mc ms Z post L M cells slots (a0 :: a1 :: a2 :: a3 :: a4 :: a5 :: a6 :: a7 :: a8 :: a9 :: a10 :: a11 :: a12 :: a13 :: a14 :: a15 :: a16 :: a17 :: a18 :: a19 :: a20 :: some (.ref x) :: t) pc (st) := by
  subst hq
  intro p e s m args below meth c r0 r H locs ls hC hZ hW hR hlo hls
  exact lv_aload hC.1 hC.2.1 d (hls.at (i := 21) rfl) (k p e s m args below meth c r0 r H locs ls hC hZ hW hR hlo hls)
theorem V_an21 (q : Nat) {a0 a1 a2 a3 a4 a5 a6 a7 a8 a9 a10 a11 a12 a13 a14 a15 a16 a17 a18 a19 a20 : Option Value} {t : List (Option Value)}  (d : decode cc pc = .ok (.aload 21, 2)) (hq : pc + 2 = q) (k : V l G y cc nL ret R mc ms Z post L M cells slots (a0 :: a1 :: a2 :: a3 :: a4 :: a5 :: a6 :: a7 :: a8 :: a9 :: a10 :: a11 :: a12 :: a13 :: a14 :: a15 :: a16 :: a17 :: a18 :: a19 :: a20 :: some (.null) :: t) q (.null :: st)) : V l G y cc nL ret R mc ms Z post L M cells slots (a0 :: a1 :: a2 :: a3 :: a4 :: a5 :: a6 :: a7 :: a8 :: a9 :: a10 :: a11 :: a12 :: a13 :: a14 :: a15 :: a16 :: a17 :: a18 :: a19 :: a20 :: some (.null) :: t) pc (st) := by
  subst hq
  intro p e s m args below meth c r0 r H locs ls hC hZ hW hR hlo hls
  exact lv_aloadN hC.1 hC.2.1 d (hls.at (i := 21) rfl) (k p e s m args below meth c r0 r H locs ls hC hZ hW hR hlo hls)
theorem V_is21 (q : Nat) {a0 a1 a2 a3 a4 a5 a6 a7 a8 a9 a10 a11 a12 a13 a14 a15 a16 a17 a18 a19 a20 b : Option Value} {t : List (Option Value)} {x : Int32} (d : decode cc pc = .ok (.istore 21, 2)) (hn : 21 < nL) (hq : pc + 2 = q) (k : V l G y cc nL ret R mc ms Z post L M cells slots (a0 :: a1 :: a2 :: a3 :: a4 :: a5 :: a6 :: a7 :: a8 :: a9 :: a10 :: a11 :: a12 :: a13 :: a14 :: a15 :: a16 :: a17 :: a18 :: a19 :: a20 :: some (.int x) :: t) q st) : V l G y cc nL ret R mc ms Z post L M cells slots (a0 :: a1 :: a2 :: a3 :: a4 :: a5 :: a6 :: a7 :: a8 :: a9 :: a10 :: a11 :: a12 :: a13 :: a14 :: a15 :: a16 :: a17 :: a18 :: a19 :: a20 :: b :: t) pc (.int x :: st) := by
  subst hq
  intro p e s m args below meth c r0 r H locs ls hC hZ hW hR hlo hls
  exact lv_istore hC.1 hC.2.1 d hls.1 hn rfl (fun ls' h' => k p e s m args below meth c r0 r H locs ls' hC hZ hW hR hlo (gH.set (i := 21) (v := .int x) hls.2 rfl h'))
theorem V_as21 (q : Nat) {a0 a1 a2 a3 a4 a5 a6 a7 a8 a9 a10 a11 a12 a13 a14 a15 a16 a17 a18 a19 a20 b : Option Value} {t : List (Option Value)} {x : Nat} (d : decode cc pc = .ok (.astore 21, 2)) (hn : 21 < nL) (hq : pc + 2 = q) (k : V l G y cc nL ret R mc ms Z post L M cells slots (a0 :: a1 :: a2 :: a3 :: a4 :: a5 :: a6 :: a7 :: a8 :: a9 :: a10 :: a11 :: a12 :: a13 :: a14 :: a15 :: a16 :: a17 :: a18 :: a19 :: a20 :: some (.ref x) :: t) q st) : V l G y cc nL ret R mc ms Z post L M cells slots (a0 :: a1 :: a2 :: a3 :: a4 :: a5 :: a6 :: a7 :: a8 :: a9 :: a10 :: a11 :: a12 :: a13 :: a14 :: a15 :: a16 :: a17 :: a18 :: a19 :: a20 :: b :: t) pc (.ref x :: st) := by
  subst hq
  intro p e s m args below meth c r0 r H locs ls hC hZ hW hR hlo hls
  exact lv_astore hC.1 hC.2.1 d hls.1 hn rfl (fun ls' h' => k p e s m args below meth c r0 r H locs ls' hC hZ hW hR hlo (gH.set (i := 21) (v := .ref x) hls.2 rfl h'))
theorem V_az21 (q : Nat) {a0 a1 a2 a3 a4 a5 a6 a7 a8 a9 a10 a11 a12 a13 a14 a15 a16 a17 a18 a19 a20 b : Option Value} {t : List (Option Value)}  (d : decode cc pc = .ok (.astore 21, 2)) (hn : 21 < nL) (hq : pc + 2 = q) (k : V l G y cc nL ret R mc ms Z post L M cells slots (a0 :: a1 :: a2 :: a3 :: a4 :: a5 :: a6 :: a7 :: a8 :: a9 :: a10 :: a11 :: a12 :: a13 :: a14 :: a15 :: a16 :: a17 :: a18 :: a19 :: a20 :: some (.null) :: t) q st) : V l G y cc nL ret R mc ms Z post L M cells slots (a0 :: a1 :: a2 :: a3 :: a4 :: a5 :: a6 :: a7 :: a8 :: a9 :: a10 :: a11 :: a12 :: a13 :: a14 :: a15 :: a16 :: a17 :: a18 :: a19 :: a20 :: b :: t) pc (.null :: st) := by
  subst hq
  intro p e s m args below meth c r0 r H locs ls hC hZ hW hR hlo hls
  exact lv_astoreN hC.1 hC.2.1 d hls.1 hn rfl (fun ls' h' => k p e s m args below meth c r0 r H locs ls' hC hZ hW hR hlo (gH.set (i := 21) (v := .null) hls.2 rfl h'))
theorem V_ii21 (q : Nat) {a0 a1 a2 a3 a4 a5 a6 a7 a8 a9 a10 a11 a12 a13 a14 a15 a16 a17 a18 a19 a20 : Option Value} {t : List (Option Value)} {x v : Int32} {n : Int} (d : decode cc pc = .ok (.iinc 21 n, 3)) (hn : 21 < nL) (hv : Int32.ofInt n = v) (hq : pc + 3 = q) (k : V l G y cc nL ret R mc ms Z post L M cells slots (a0 :: a1 :: a2 :: a3 :: a4 :: a5 :: a6 :: a7 :: a8 :: a9 :: a10 :: a11 :: a12 :: a13 :: a14 :: a15 :: a16 :: a17 :: a18 :: a19 :: a20 :: some (.int (x + v)) :: t) q st) : V l G y cc nL ret R mc ms Z post L M cells slots (a0 :: a1 :: a2 :: a3 :: a4 :: a5 :: a6 :: a7 :: a8 :: a9 :: a10 :: a11 :: a12 :: a13 :: a14 :: a15 :: a16 :: a17 :: a18 :: a19 :: a20 :: some (.int x) :: t) pc st := by
  subst hq
  subst hv
  intro p e s m args below meth c r0 r H locs ls hC hZ hW hR hlo hls
  obtain ⟨k9, hk9⟩ := List.getElem?_of_mem (gP_mem.mpr ⟨.int x, rfl, rfl⟩ : (21, Value.int x) ∈ gP r (a0 :: a1 :: a2 :: a3 :: a4 :: a5 :: a6 :: a7 :: a8 :: a9 :: a10 :: a11 :: a12 :: a13 :: a14 :: a15 :: a16 :: a17 :: a18 :: a19 :: a20 :: some (.int x) :: t))
  exact lv_iinc hC.1 hC.2.1 d hls.1 hk9 rfl hn rfl (fun ls' h' => k p e s m args below meth c r0 r H locs ls' hC hZ hW hR hlo (gH.set (i := 21) (v := .int (x + Int32.ofInt n)) hls.2 rfl h'))
theorem V_il22 (q : Nat) {a0 a1 a2 a3 a4 a5 a6 a7 a8 a9 a10 a11 a12 a13 a14 a15 a16 a17 a18 a19 a20 a21 : Option Value} {t : List (Option Value)} {x : Int32} (d : decode cc pc = .ok (.iload 22, 2)) (hq : pc + 2 = q) (k : V l G y cc nL ret R mc ms Z post L M cells slots (a0 :: a1 :: a2 :: a3 :: a4 :: a5 :: a6 :: a7 :: a8 :: a9 :: a10 :: a11 :: a12 :: a13 :: a14 :: a15 :: a16 :: a17 :: a18 :: a19 :: a20 :: a21 :: some (.int x) :: t) q (.int x :: st)) : V l G y cc nL ret R mc ms Z post L M cells slots (a0 :: a1 :: a2 :: a3 :: a4 :: a5 :: a6 :: a7 :: a8 :: a9 :: a10 :: a11 :: a12 :: a13 :: a14 :: a15 :: a16 :: a17 :: a18 :: a19 :: a20 :: a21 :: some (.int x) :: t) pc (st) := by
  subst hq
  intro p e s m args below meth c r0 r H locs ls hC hZ hW hR hlo hls
  exact lv_iload hC.1 hC.2.1 d (hls.at (i := 22) rfl) (k p e s m args below meth c r0 r H locs ls hC hZ hW hR hlo hls)
theorem V_al22 (q : Nat) {a0 a1 a2 a3 a4 a5 a6 a7 a8 a9 a10 a11 a12 a13 a14 a15 a16 a17 a18 a19 a20 a21 : Option Value} {t : List (Option Value)} {x : Nat} (d : decode cc pc = .ok (.aload 22, 2)) (hq : pc + 2 = q) (k : V l G y cc nL ret R mc ms Z post L M cells slots (a0 :: a1 :: a2 :: a3 :: a4 :: a5 :: a6 :: a7 :: a8 :: a9 :: a10 :: a11 :: a12 :: a13 :: a14 :: a15 :: a16 :: a17 :: a18 :: a19 :: a20 :: a21 :: some (.ref x) :: t) q (.ref x :: st)) : V l G y cc nL ret R mc ms Z post L M cells slots (a0 :: a1 :: a2 :: a3 :: a4 :: a5 :: a6 :: a7 :: a8 :: a9 :: a10 :: a11 :: a12 :: a13 :: a14 :: a15 :: a16 :: a17 :: a18 :: a19 :: a20 :: a21 :: some (.ref x) :: t) pc (st) := by
  subst hq
  intro p e s m args below meth c r0 r H locs ls hC hZ hW hR hlo hls
  exact lv_aload hC.1 hC.2.1 d (hls.at (i := 22) rfl) (k p e s m args below meth c r0 r H locs ls hC hZ hW hR hlo hls)
theorem V_an22 (q : Nat) {a0 a1 a2 a3 a4 a5 a6 a7 a8 a9 a10 a11 a12 a13 a14 a15 a16 a17 a18 a19 a20 a21 : Option Value} {t : List (Option Value)}  (d : decode cc pc = .ok (.aload 22, 2)) (hq : pc + 2 = q) (k : V l G y cc nL ret R mc ms Z post L M cells slots (a0 :: a1 :: a2 :: a3 :: a4 :: a5 :: a6 :: a7 :: a8 :: a9 :: a10 :: a11 :: a12 :: a13 :: a14 :: a15 :: a16 :: a17 :: a18 :: a19 :: a20 :: a21 :: some (.null) :: t) q (.null :: st)) : V l G y cc nL ret R mc ms Z post L M cells slots (a0 :: a1 :: a2 :: a3 :: a4 :: a5 :: a6 :: a7 :: a8 :: a9 :: a10 :: a11 :: a12 :: a13 :: a14 :: a15 :: a16 :: a17 :: a18 :: a19 :: a20 :: a21 :: some (.null) :: t) pc (st) := by
  subst hq
  intro p e s m args below meth c r0 r H locs ls hC hZ hW hR hlo hls
  exact lv_aloadN hC.1 hC.2.1 d (hls.at (i := 22) rfl) (k p e s m args below meth c r0 r H locs ls hC hZ hW hR hlo hls)
theorem V_is22 (q : Nat) {a0 a1 a2 a3 a4 a5 a6 a7 a8 a9 a10 a11 a12 a13 a14 a15 a16 a17 a18 a19 a20 a21 b : Option Value} {t : List (Option Value)} {x : Int32} (d : decode cc pc = .ok (.istore 22, 2)) (hn : 22 < nL) (hq : pc + 2 = q) (k : V l G y cc nL ret R mc ms Z post L M cells slots (a0 :: a1 :: a2 :: a3 :: a4 :: a5 :: a6 :: a7 :: a8 :: a9 :: a10 :: a11 :: a12 :: a13 :: a14 :: a15 :: a16 :: a17 :: a18 :: a19 :: a20 :: a21 :: some (.int x) :: t) q st) : V l G y cc nL ret R mc ms Z post L M cells slots (a0 :: a1 :: a2 :: a3 :: a4 :: a5 :: a6 :: a7 :: a8 :: a9 :: a10 :: a11 :: a12 :: a13 :: a14 :: a15 :: a16 :: a17 :: a18 :: a19 :: a20 :: a21 :: b :: t) pc (.int x :: st) := by
  subst hq
  intro p e s m args below meth c r0 r H locs ls hC hZ hW hR hlo hls
  exact lv_istore hC.1 hC.2.1 d hls.1 hn rfl (fun ls' h' => k p e s m args below meth c r0 r H locs ls' hC hZ hW hR hlo (gH.set (i := 22) (v := .int x) hls.2 rfl h'))
theorem V_as22 (q : Nat) {a0 a1 a2 a3 a4 a5 a6 a7 a8 a9 a10 a11 a12 a13 a14 a15 a16 a17 a18 a19 a20 a21 b : Option Value} {t : List (Option Value)} {x : Nat} (d : decode cc pc = .ok (.astore 22, 2)) (hn : 22 < nL) (hq : pc + 2 = q) (k : V l G y cc nL ret R mc ms Z post L M cells slots (a0 :: a1 :: a2 :: a3 :: a4 :: a5 :: a6 :: a7 :: a8 :: a9 :: a10 :: a11 :: a12 :: a13 :: a14 :: a15 :: a16 :: a17 :: a18 :: a19 :: a20 :: a21 :: some (.ref x) :: t) q st) : V l G y cc nL ret R mc ms Z post L M cells slots (a0 :: a1 :: a2 :: a3 :: a4 :: a5 :: a6 :: a7 :: a8 :: a9 :: a10 :: a11 :: a12 :: a13 :: a14 :: a15 :: a16 :: a17 :: a18 :: a19 :: a20 :: a21 :: b :: t) pc (.ref x :: st) := by
  subst hq
  intro p e s m args below meth c r0 r H locs ls hC hZ hW hR hlo hls
  exact lv_astore hC.1 hC.2.1 d hls.1 hn rfl (fun ls' h' => k p e s m args below meth c r0 r H locs ls' hC hZ hW hR hlo (gH.set (i := 22) (v := .ref x) hls.2 rfl h'))
theorem V_az22 (q : Nat) {a0 a1 a2 a3 a4 a5 a6 a7 a8 a9 a10 a11 a12 a13 a14 a15 a16 a17 a18 a19 a20 a21 b : Option Value} {t : List (Option Value)}  (d : decode cc pc = .ok (.astore 22, 2)) (hn : 22 < nL) (hq : pc + 2 = q) (k : V l G y cc nL ret R mc ms Z post L M cells slots (a0 :: a1 :: a2 :: a3 :: a4 :: a5 :: a6 :: a7 :: a8 :: a9 :: a10 :: a11 :: a12 :: a13 :: a14 :: a15 :: a16 :: a17 :: a18 :: a19 :: a20 :: a21 :: some (.null) :: t) q st) : V l G y cc nL ret R mc ms Z post L M cells slots (a0 :: a1 :: a2 :: a3 :: a4 :: a5 :: a6 :: a7 :: a8 :: a9 :: a10 :: a11 :: a12 :: a13 :: a14 :: a15 :: a16 :: a17 :: a18 :: a19 :: a20 :: a21 :: b :: t) pc (.null :: st) := by
  subst hq
  intro p e s m args below meth c r0 r H locs ls hC hZ hW hR hlo hls
  exact lv_astoreN hC.1 hC.2.1 d hls.1 hn rfl (fun ls' h' => k p e s m args below meth c r0 r H locs ls' hC hZ hW hR hlo (gH.set (i := 22) (v := .null) hls.2 rfl h'))
theorem V_ii22 (q : Nat) {a0 a1 a2 a3 a4 a5 a6 a7 a8 a9 a10 a11 a12 a13 a14 a15 a16 a17 a18 a19 a20 a21 : Option Value} {t : List (Option Value)} {x v : Int32} {n : Int} (d : decode cc pc = .ok (.iinc 22 n, 3)) (hn : 22 < nL) (hv : Int32.ofInt n = v) (hq : pc + 3 = q) (k : V l G y cc nL ret R mc ms Z post L M cells slots (a0 :: a1 :: a2 :: a3 :: a4 :: a5 :: a6 :: a7 :: a8 :: a9 :: a10 :: a11 :: a12 :: a13 :: a14 :: a15 :: a16 :: a17 :: a18 :: a19 :: a20 :: a21 :: some (.int (x + v)) :: t) q st) : V l G y cc nL ret R mc ms Z post L M cells slots (a0 :: a1 :: a2 :: a3 :: a4 :: a5 :: a6 :: a7 :: a8 :: a9 :: a10 :: a11 :: a12 :: a13 :: a14 :: a15 :: a16 :: a17 :: a18 :: a19 :: a20 :: a21 :: some (.int x) :: t) pc st := by
  subst hq
  subst hv
  intro p e s m args below meth c r0 r H locs ls hC hZ hW hR hlo hls
  obtain ⟨k9, hk9⟩ := List.getElem?_of_mem (gP_mem.mpr ⟨.int x, rfl, rfl⟩ : (22, Value.int x) ∈ gP r (a0 :: a1 :: a2 :: a3 :: a4 :: a5 :: a6 :: a7 :: a8 :: a9 :: a10 :: a11 :: a12 :: a13 :: a14 :: a15 :: a16 :: a17 :: a18 :: a19 :: a20 :: a21 :: some (.int x) :: t))
  exact lv_iinc hC.1 hC.2.1 d hls.1 hk9 rfl hn rfl (fun ls' h' => k p e s m args below meth c r0 r H locs ls' hC hZ hW hR hlo (gH.set (i := 22) (v := .int (x + Int32.ofInt n)) hls.2 rfl h'))
theorem V_il23 (q : Nat) {a0 a1 a2 a3 a4 a5 a6 a7 a8 a9 a10 a11 a12 a13 a14 a15 a16 a17 a18 a19 a20 a21 a22 : Option Value} {t : List (Option Value)} {x : Int32} (d : decode cc pc = .ok (.iload 23, 2)) (hq : pc + 2 = q) (k : V l G y cc nL ret R mc ms Z post L M cells slots (a0 :: a1 :: a2 :: a3 :: a4 :: a5 :: a6 :: a7 :: a8 :: a9 :: a10 :: a11 :: a12 :: a13 :: a14 :: a15 :: a16 :: a17 :: a18 :: a19 :: a20 :: a21 :: a22 :: some (.int x) :: t) q (.int x :: st)) : V l G y cc nL ret R mc ms Z post L M cells slots (a0 :: a1 :: a2 :: a3 :: a4 :: a5 :: a6 :: a7 :: a8 :: a9 :: a10 :: a11 :: a12 :: a13 :: a14 :: a15 :: a16 :: a17 :: a18 :: a19 :: a20 :: a21 :: a22 :: some (.int x) :: t) pc (st) := by
  subst hq
  intro p e s m args below meth c r0 r H locs ls hC hZ hW hR hlo hls
  exact lv_iload hC.1 hC.2.1 d (hls.at (i := 23) rfl) (k p e s m args below meth c r0 r H locs ls hC hZ hW hR hlo hls)
theorem V_al23 (q : Nat) {a0 a1 a2 a3 a4 a5 a6 a7 a8 a9 a10 a11 a12 a13 a14 a15 a16 a17 a18 a19 a20 a21 a22 : Option Value} {t : List (Option Value)} {x : Nat} (d : decode cc pc = .ok (.aload 23, 2)) (hq : pc + 2 = q) (k : V l G y cc nL ret R mc ms Z post L M cells slots (a0 :: a1 :: a2 :: a3 :: a4 :: a5 :: a6 :: a7 :: a8 :: a9 :: a10 :: a11 :: a12 :: a13 :: a14 :: a15 :: a16 :: a17 :: a18 :: a19 :: a20 :: a21 :: a22 :: some (.ref x) :: t) q (.ref x :: st)) : V l G y cc nL ret R mc ms Z post L M cells slots (a0 :: a1 :: a2 :: a3 :: a4 :: a5 :: a6 :: a7 :: a8 :: a9 :: a10 :: a11 :: a12 :: a13 :: a14 :: a15 :: a16 :: a17 :: a18 :: a19 :: a20 :: a21 :: a22 :: some (.ref x) :: t) pc (st) := by
  subst hq
  intro p e s m args below meth c r0 r H locs ls hC hZ hW hR hlo hls
  exact lv_aload hC.1 hC.2.1 d (hls.at (i := 23) rfl) (k p e s m args below meth c r0 r H locs ls hC hZ hW hR hlo hls)
theorem V_an23 (q : Nat) {a0 a1 a2 a3 a4 a5 a6 a7 a8 a9 a10 a11 a12 a13 a14 a15 a16 a17 a18 a19 a20 a21 a22 : Option Value} {t : List (Option Value)}  (d : decode cc pc = .ok (.aload 23, 2)) (hq : pc + 2 = q) (k : V l G y cc nL ret R mc ms Z post L M cells slots (a0 :: a1 :: a2 :: a3 :: a4 :: a5 :: a6 :: a7 :: a8 :: a9 :: a10 :: a11 :: a12 :: a13 :: a14 :: a15 :: a16 :: a17 :: a18 :: a19 :: a20 :: a21 :: a22 :: some (.null) :: t) q (.null :: st)) : V l G y cc nL ret R mc ms Z post L M cells slots (a0 :: a1 :: a2 :: a3 :: a4 :: a5 :: a6 :: a7 :: a8 :: a9 :: a10 :: a11 :: a12 :: a13 :: a14 :: a15 :: a16 :: a17 :: a18 :: a19 :: a20 :: a21 :: a22 :: some (.null) :: t) pc (st) := by
  subst hq
  intro p e s m args below meth c r0 r H locs ls hC hZ hW hR hlo hls
  exact lv_aloadN hC.1 hC.2.1 d (hls.at (i := 23) rfl) (k p e s m args below meth c r0 r H locs ls hC hZ hW hR hlo hls)
theorem V_is23 (q : Nat) {a0 a1 a2 a3 a4 a5 a6 a7 a8 a9 a10 a11 a12 a13 a14 a15 a16 a17 a18 a19 a20 a21 a22 b : Option Value} {t : List (Option Value)} {x : Int32} (d : decode cc pc = .ok (.istore 23, 2)) (hn : 23 < nL) (hq : pc + 2 = q) (k : V l G y cc nL ret R mc ms Z post L M cells slots (a0 :: a1 :: a2 :: a3 :: a4 :: a5 :: a6 :: a7 :: a8 :: a9 :: a10 :: a11 :: a12 :: a13 :: a14 :: a15 :: a16 :: a17 :: a18 :: a19 :: a20 :: a21 :: a22 :: some (.int x) :: t) q st) : V l G y cc nL ret R mc ms Z post L M cells slots (a0 :: a1 :: a2 :: a3 :: a4 :: a5 :: a6 :: a7 :: a8 :: a9 :: a10 :: a11 :: a12 :: a13 :: a14 :: a15 :: a16 :: a17 :: a18 :: a19 :: a20 :: a21 :: a22 :: b :: t) pc (.int x :: st) := by
  subst hq
  intro p e s m args below meth c r0 r H locs ls hC hZ hW hR hlo hls
  exact lv_istore hC.1 hC.2.1 d hls.1 hn rfl (fun ls' h' => k p e s m args below meth c r0 r H locs ls' hC hZ hW hR hlo (gH.set (i := 23) (v := .int x) hls.2 rfl h'))
theorem V_as23 (q : Nat) {a0 a1 a2 a3 a4 a5 a6 a7 a8 a9 a10 a11 a12 a13 a14 a15 a16 a17 a18 a19 a20 a21 a22 b : Option Value} {t : List (Option Value)} {x : Nat} (d : decode cc pc = .ok (.astore 23, 2)) (hn : 23 < nL) (hq : pc + 2 = q) (k : V l G y cc nL ret R mc ms Z post L M cells slots (a0 :: a1 :: a2 :: a3 :: a4 :: a5 :: a6 :: a7 :: a8 :: a9 :: a10 :: a11 :: a12 :: a13 :: a14 :: a15 :: a16 :: a17 :: a18 :: a19 :: a20 :: a21 :: a22 :: some (.ref x) :: t) q st) : V l G y cc nL ret R mc ms Z post L M cells slots (a0 :: a1 :: a2 :: a3 :: a4 :: a5 :: a6 :: a7 :: a8 :: a9 :: a10 :: a11 :: a12 :: a13 :: a14 :: a15 :: a16 :: a17 :: a18 :: a19 :: a20 :: a21 :: a22 :: b :: t) pc (.ref x :: st) := by
  subst hq
  intro p e s m args below meth c r0 r H locs ls hC hZ hW hR hlo hls
  exact lv_astore hC.1 hC.2.1 d hls.1 hn rfl (fun ls' h' => k p e s m args below meth c r0 r H locs ls' hC hZ hW hR hlo (gH.set (i := 23) (v := .ref x) hls.2 rfl h'))
theorem V_az23 (q : Nat) {a0 a1 a2 a3 a4 a5 a6 a7 a8 a9 a10 a11 a12 a13 a14 a15 a16 a17 a18 a19 a20 a21 a22 b : Option Value} {t : List (Option Value)}  (d : decode cc pc = .ok (.astore 23, 2)) (hn : 23 < nL) (hq : pc + 2 = q) (k : V l G y cc nL ret R mc ms Z post L M cells slots (a0 :: a1 :: a2 :: a3 :: a4 :: a5 :: a6 :: a7 :: a8 :: a9 :: a10 :: a11 :: a12 :: a13 :: a14 :: a15 :: a16 :: a17 :: a18 :: a19 :: a20 :: a21 :: a22 :: some (.null) :: t) q st) : V l G y cc nL ret R mc ms Z post L M cells slots (a0 :: a1 :: a2 :: a3 :: a4 :: a5 :: a6 :: a7 :: a8 :: a9 :: a10 :: a11 :: a12 :: a13 :: a14 :: a15 :: a16 :: a17 :: a18 :: a19 :: a20 :: a21 :: a22 :: b :: t) pc (.null :: st) := by
  subst hq
  intro p e s m args below meth c r0 r H locs ls hC hZ hW hR hlo hls
  exact lv_astoreN hC.1 hC.2.1 d hls.1 hn rfl (fun ls' h' => k p e s m args below meth c r0 r H locs ls' hC hZ hW hR hlo (gH.set (i := 23) (v := .null) hls.2 rfl h'))
theorem V_ii23 (q : Nat) {a0 a1 a2 a3 a4 a5 a6 a7 a8 a9 a10 a11 a12 a13 a14 a15 a16 a17 a18 a19 a20 a21 a22 : Option Value} {t : List (Option Value)} {x v : Int32} {n : Int} (d : decode cc pc = .ok (.iinc 23 n, 3)) (hn : 23 < nL) (hv : Int32.ofInt n = v) (hq : pc + 3 = q) (k : V l G y cc nL ret R mc ms Z post L M cells slots (a0 :: a1 :: a2 :: a3 :: a4 :: a5 :: a6 :: a7 :: a8 :: a9 :: a10 :: a11 :: a12 :: a13 :: a14 :: a15 :: a16 :: a17 :: a18 :: a19 :: a20 :: a21 :: a22 :: some (.int (x + v)) :: t) q st) : V l G y cc nL ret R mc ms Z post L M cells slots (a0 :: a1 :: a2 :: a3 :: a4 :: a5 :: a6 :: a7 :: a8 :: a9 :: a10 :: a11 :: a12 :: a13 :: a14 :: a15 :: a16 :: a17 :: a18 :: a19 :: a20 :: a21 :: a22 :: some (.int x) :: t) pc st := by
  subst hq
  subst hv
  intro p e s m args below meth c r0 r H locs ls hC hZ hW hR hlo hls
  obtain ⟨k9, hk9⟩ := List.getElem?_of_mem (gP_mem.mpr ⟨.int x, rfl, rfl⟩ : (23, Value.int x) ∈ gP r (a0 :: a1 :: a2 :: a3 :: a4 :: a5 :: a6 :: a7 :: a8 :: a9 :: a10 :: a11 :: a12 :: a13 :: a14 :: a15 :: a16 :: a17 :: a18 :: a19 :: a20 :: a21 :: a22 :: some (.int x) :: t))
  exact lv_iinc hC.1 hC.2.1 d hls.1 hk9 rfl hn rfl (fun ls' h' => k p e s m args below meth c r0 r H locs ls' hC hZ hW hR hlo (gH.set (i := 23) (v := .int (x + Int32.ofInt n)) hls.2 rfl h'))
theorem V_il24 (q : Nat) {a0 a1 a2 a3 a4 a5 a6 a7 a8 a9 a10 a11 a12 a13 a14 a15 a16 a17 a18 a19 a20 a21 a22 a23 : Option Value} {t : List (Option Value)} {x : Int32} (d : decode cc pc = .ok (.iload 24, 2)) (hq : pc + 2 = q) (k : V l G y cc nL ret R mc ms Z post L M cells slots (a0 :: a1 :: a2 :: a3 :: a4 :: a5 :: a6 :: a7 :: a8 :: a9 :: a10 :: a11 :: a12 :: a13 :: a14 :: a15 :: a16 :: a17 :: a18 :: a19 :: a20 :: a21 :: a22 :: a23 :: some (.int x) :: t) q (.int x :: st)) : V l G y cc nL ret R mc ms Z post L M cells slots (a0 :: a1 :: a2 :: a3 :: a4 :: a5 :: a6 :: a7 :: a8 :: a9 :: a10 :: a11 :: a12 :: a13 :: a14 :: a15 :: a16 :: a17 :: a18 :: a19 :: a20 :: a21 :: a22 :: a23 :: some (.int x) :: t) pc (st) := by
  subst hq
  intro p e s m args below meth c r0 r H locs ls hC hZ hW hR hlo hls
  exact lv_iload hC.1 hC.2.1 d (hls.at (i := 24) rfl) (k p e s m args below meth c r0 r H locs ls hC hZ hW hR hlo hls)
theorem V_al24 (q : Nat) {a0 a1 a2 a3 a4 a5 a6 a7 a8 a9 a10 a11 a12 a13 a14 a15 a16 a17 a18 a19 a20 a21 a22 a23 : Option Value} {t : List (Option Value)} {x : Nat} (d : decode cc pc = .ok (.aload 24, 2)) (hq : pc + 2 = q) (k : V l G y cc nL ret R mc ms Z post L M cells slots (a0 :: a1 :: a2 :: a3 :: a4 :: a5 :: a6 :: a7 :: a8 :: a9 :: a10 :: a11 :: a12 :: a13 :: a14 :: a15 :: a16 :: a17 :: a18 :: a19 :: a20 :: a21 :: a22 :: a23 :: some (.ref x) :: t) q (.ref x :: st)) : V l G y cc nL ret R mc ms Z post L M cells slots (a0 :: a1 :: a2 :: a3 :: a4 :: a5 :: a6 :: a7 :: a8 :: a9 :: a10 :: a11 :: a12 :: a13 :: a14 :: a15 :: a16 :: a17 :: a18 :: a19 :: a20 :: a21 :: a22 :: a23 :: some (.ref x) :: t) pc (st) := by
  subst hq
  intro p e s m args below meth c r0 r H locs ls hC hZ hW hR hlo hls
  exact lv_aload hC.1 hC.2.1 d (hls.at (i := 24) rfl) (k p e s m args below meth c r0 r H locs ls hC hZ hW hR hlo hls)
theorem V_an24 (q : Nat) {a0 a1 a2 a3 a4 a5 a6 a7 a8 a9 a10 a11 a12 a13 a14 a15 a16 a17 a18 a19 a20 a21 a22 a23 : Option Value} {t : List (Option Value)}  (d : decode cc pc = .ok (.aload 24, 2)) (hq : pc + 2 = q) (k : V l G y cc nL ret R mc ms Z post L M cells slots (a0 :: a1 :: a2 :: a3 :: a4 :: a5 :: a6 :: a7 :: a8 :: a9 :: a10 :: a11 :: a12 :: a13 :: a14 :: a15 :: a16 :: a17 :: a18 :: a19 :: a20 :: a21 :: a22 :: a23 :: some (.null) :: t) q (.null :: st)) : V l G y cc nL ret R mc ms Z post L M cells slots (a0 :: a1 :: a2 :: a3 :: a4 :: a5 :: a6 :: a7 :: a8 :: a9 :: a10 :: a11 :: a12 :: a13 :: a14 :: a15 :: a16 :: a17 :: a18 :: a19 :: a20 :: a21 :: a22 :: a23 :: some (.null) :: t) pc (st) := by
  subst hq
  intro p e s m args below meth c r0 r H locs ls hC hZ hW hR hlo hls
  exact lv_aloadN hC.1 hC.2.1 d (hls.at (i := 24) rfl) (k p e s m args below meth c r0 r H locs ls hC hZ hW hR hlo hls)
theorem V_is24 (q : Nat) {a0 a1 a2 a3 a4 a5 a6 a7 a8 a9 a10 a11 a12 a13 a14 a15 a16 a17 a18 a19 a20 a21 a22 a23 b : Option Value} {t : List (Option Value)} {x : Int32} (d : decode cc pc = .ok (.istore 24, 2)) (hn : 24 < nL) (hq : pc + 2 = q) (k : V l G y cc nL ret R mc ms Z post L M cells slots (a0 :: a1 :: a2 :: a3 :: a4 :: a5 :: a6 :: a7 :: a8 :: a9 :: a10 :: a11 :: a12 :: a13 :: a14 :: a15 :: a16 :: a17 :: a18 :: a19 :: a20 :: a21 :: a22 :: a23 :: some (.int x) :: t) q st) : V l G y cc nL ret R mc ms Z post L M cells slots (a0 :: a1 :: a2 :: a3 :: a4 :: a5 :: a6 :: a7 :: a8 :: a9 :: a10 :: a11 :: a12 :: a13 :: a14 :: a15 :: a16 :: a17 :: a18 :: a19 :: a20 :: a21 :: a22 :: a23 :: b :: t) pc (.int x :: st) := by
  subst hq
  intro p e s m args below meth c r0 r H locs ls hC hZ hW hR hlo hls
  exact lv_istore hC.1 hC.2.1 d hls.1 hn rfl (fun ls' h' => k p e s m args below meth c r0 r H locs ls' hC hZ hW hR hlo (gH.set (i := 24) (v := .int x) hls.2 rfl h'))
theorem V_as24 (q : Nat) {a0 a1 a2 a3 a4 a5 a6 a7 a8 a9 a10 a11 a12 a13 a14 a15 a16 a17 a18 a19 a20 a21 a22 a23 b : Option Value} {t : List (Option Value)} {x : Nat} (d : decode cc pc = .ok (.astore 24, 2)) (hn : 24 < nL) (hq : pc + 2 = q) (k : V l G y cc nL ret R mc ms Z post L M cells slots (a0 :: a1 :: a2 :: a3 :: a4 :: a5 :: a6 :: a7 :: a8 :: a9 :: a10 :: a11 :: a12 :: a13 :: a14 :: a15 :: a16 :: a17 :: a18 :: a19 :: a20 :: a21 :: a22 :: a23 :: some (.ref x) :: t) q st) : V l G y cc nL ret R mc ms Z post L M cells slots (a0 :: a1 :: a2 :: a3 :: a4 :: a5 :: a6 :: a7 :: a8 :: a9 :: a10 :: a11 :: a12 :: a13 :: a14 :: a15 :: a16 :: a17 :: a18 :: a19 :: a20 :: a21 :: a22 :: a23 :: b :: t) pc (.ref x :: st) := by
  subst hq
  intro p e s m args below meth c r0 r H locs ls hC hZ hW hR hlo hls
  exact lv_astore hC.1 hC.2.1 d hls.1 hn rfl (fun ls' h' => k p e s m args below meth c r0 r H locs ls' hC hZ hW hR hlo (gH.set (i := 24) (v := .ref x) hls.2 rfl h'))
theorem V_az24 (q : Nat) {a0 a1 a2 a3 a4 a5 a6 a7 a8 a9 a10 a11 a12 a13 a14 a15 a16 a17 a18 a19 a20 a21 a22 a23 b : Option Value} {t : List (Option Value)}  (d : decode cc pc = .ok (.astore 24, 2)) (hn : 24 < nL) (hq : pc + 2 = q) (k : V l G y cc nL ret R mc ms Z post L M cells slots (a0 :: a1 :: a2 :: a3 :: a4 :: a5 :: a6 :: a7 :: a8 :: a9 :: a10 :: a11 :: a12 :: a13 :: a14 :: a15 :: a16 :: a17 :: a18 :: a19 :: a20 :: a21 :: a22 :: a23 :: some (.null) :: t) q st) : V l G y cc nL ret R mc ms Z post L M cells slots (a0 :: a1 :: a2 :: a3 :: a4 :: a5 :: a6 :: a7 :: a8 :: a9 :: a10 :: a11 :: a12 :: a13 :: a14 :: a15 :: a16 :: a17 :: a18 :: a19 :: a20 :: a21 :: a22 :: a23 :: b :: t) pc (.null :: st) := by
  subst hq
  intro p e s m args below meth c r0 r H locs ls hC hZ hW hR hlo hls
  exact lv_astoreN hC.1 hC.2.1 d hls.1 hn rfl (fun ls' h' => k p e s m args below meth c r0 r H locs ls' hC hZ hW hR hlo (gH.set (i := 24) (v := .null) hls.2 rfl h'))
theorem V_ii24 (q : Nat) {a0 a1 a2 a3 a4 a5 a6 a7 a8 a9 a10 a11 a12 a13 a14 a15 a16 a17 a18 a19 a20 a21 a22 a23 : Option Value} {t : List (Option Value)} {x v : Int32} {n : Int} (d : decode cc pc = .ok (.iinc 24 n, 3)) (hn : 24 < nL) (hv : Int32.ofInt n = v) (hq : pc + 3 = q) (k : V l G y cc nL ret R mc ms Z post L M cells slots (a0 :: a1 :: a2 :: a3 :: a4 :: a5 :: a6 :: a7 :: a8 :: a9 :: a10 :: a11 :: a12 :: a13 :: a14 :: a15 :: a16 :: a17 :: a18 :: a19 :: a20 :: a21 :: a22 :: a23 :: some (.int (x + v)) :: t) q st) : V l G y cc nL ret R mc ms Z post L M cells slots (a0 :: a1 :: a2 :: a3 :: a4 :: a5 :: a6 :: a7 :: a8 :: a9 :: a10 :: a11 :: a12 :: a13 :: a14 :: a15 :: a16 :: a17 :: a18 :: a19 :: a20 :: a21 :: a22 :: a23 :: some (.int x) :: t) pc st := by
  subst hq
  subst hv
  intro p e s m args below meth c r0 r H locs ls hC hZ hW hR hlo hls
  obtain ⟨k9, hk9⟩ := List.getElem?_of_mem (gP_mem.mpr ⟨.int x, rfl, rfl⟩ : (24, Value.int x) ∈ gP r (a0 :: a1 :: a2 :: a3 :: a4 :: a5 :: a6 :: a7 :: a8 :: a9 :: a10 :: a11 :: a12 :: a13 :: a14 :: a15 :: a16 :: a17 :: a18 :: a19 :: a20 :: a21 :: a22 :: a23 :: some (.int x) :: t))
  exact lv_iinc hC.1 hC.2.1 d hls.1 hk9 rfl hn rfl (fun ls' h' => k p e s m args below meth c r0 r H locs ls' hC hZ hW hR hlo (gH.set (i := 24) (v := .int (x + Int32.ofInt n)) hls.2 rfl h'))
theorem V_il25 (q : Nat) {a0 a1 a2 a3 a4 a5 a6 a7 a8 a9 a10 a11 a12 a13 a14 a15 a16 a17 a18 a19 a20 a21 a22 a23 a24 : Option Value} {t : List (Option Value)} {x : Int32} (d : decode cc pc = .ok (.iload 25, 2)) (hq : pc + 2 = q) (k : V l G y cc nL ret R mc ms Z post L M cells slots (a0 :: a1 :: a2 :: a3 :: a4 :: a5 :: a6 :: a7 :: a8 :: a9 :: a10 :: a11 :: a12 :: a13 :: a14 :: a15 :: a16 :: a17 :: a18 :: a19 :: a20 :: a21 :: a22 :: a23 :: a24 :: some (.int x) :: t) q (.int x :: st)) : V l G y cc nL ret R mc ms Z post L M cells slots (a0 :: a1 :: a2 :: a3 :: a4 :: a5 :: a6 :: a7 :: a8 :: a9 :: a10 :: a11 :: a12 :: a13 :: a14 :: a15 :: a16 :: a17 :: a18 :: a19 :: a20 :: a21 :: a22 :: a23 :: a24 :: some (.int x) :: t) pc (st) := by
  subst hq
  intro p e s m args below meth c r0 r H locs ls hC hZ hW hR hlo hls
  exact lv_iload hC.1 hC.2.1 d (hls.at (i := 25) rfl) (k p e s m args below meth c r0 r H locs ls hC hZ hW hR hlo hls)
theorem V_al25 (q : Nat) {a0 a1 a2 a3 a4 a5 a6 a7 a8 a9 a10 a11 a12 a13 a14 a15 a16 a17 a18 a19 a20 a21 a22 a23 a24 : Option Value} {t : List (Option Value)} {x : Nat} (d : decode cc pc = .ok (.aload 25, 2)) (hq : pc + 2 = q) (k : V l G y cc nL ret R mc ms Z post L M cells slots (a0 :: a1 :: a2 :: a3 :: a4 :: a5 :: a6 :: a7 :: a8 :: a9 :: a10 :: a11 :: a12 :: a13 :: a14 :: a15 :: a16 :: a17 :: a18 :: a19 :: a20 :: a21 :: a22 :: a23 :: a24 :: some (.ref x) :: t) q (.ref x :: st)) : V l G y cc nL ret R mc ms Z post L M cells slots (a0 :: a1 :: a2 :: a3 :: a4 :: a5 :: a6 :: a7 :: a8 :: a9 :: a10 :: a11 :: a12 :: a13 :: a14 :: a15 :: a16 :: a17 :: a18 :: a19 :: a20 :: a21 :: a22 :: a23 :: a24 :: some (.ref x) :: t) pc (st) := by
  subst hq
  intro p e s m args below meth c r0 r H locs ls hC hZ hW hR hlo hls
  exact lv_aload hC.1 hC.2.1 d (hls.at (i := 25) rfl) (k p e s m args below meth c r0 r H locs ls hC hZ hW hR hlo hls)
theorem V_an25 (q : Nat) {a0 a1 a2 a3 a4 a5 a6 a7 a8 a9 a10 a11 a12 a13 a14 a15 a16 a17 a18 a19 a20 a21 a22 a23 a24 : Option Value} {t : List (Option Value)}  (d : decode cc pc = .ok (.aload 25, 2)) (hq : pc + 2 = q) (k : V l G y cc nL ret R mc ms Z post L M cells slots (a0 :: a1 :: a2 :: a3 :: a4 :: a5 :: a6 :: a7 :: a8 :: a9 :: a10 :: a11 :: a12 :: a13 :: a14 :: a15 :: a16 :: a17 :: a18 :: a19 :: a20 :: a21 :: a22 :: a23 :: a24 :: some (.null) :: t) q (.null :: st)) : V l G y cc nL ret R mc ms Z post L M cells slots (a0 :: a1 :: a2 :: a3 :: a4 :: a5 :: a6 :: a7 :: a8 :: a9 :: a10 :: a11 :: a12 :: a13 :: a14 :: a15 :: a16 :: a17 :: a18 :: a19 :: a20 :: a21 :: a22 :: a23 :: a24 :: some (.null) :: t) pc (st) := by
  subst hq
  intro p e s m args below meth c r0 r H locs ls hC hZ hW hR hlo hls
  exact lv_aloadN hC.1 hC.2.1 d (hls.at (i := 25) rfl) (k p e s m args below meth c r0 r H locs ls hC hZ hW hR hlo hls)
theorem V_is25 (q : Nat) {a0 a1 a2 a3 a4 a5 a6 a7 a8 a9 a10 a11 a12 a13 a14 a15 a16 a17 a18 a19 a20 a21 a22 a23 a24 b : Option Value} {t : List (Option Value)} {x : Int32} (d : decode cc pc = .ok (.istore 25, 2)) (hn : 25 < nL) (hq : pc + 2 = q) (k : V l G y cc nL ret R mc ms Z post L M cells slots (a0 :: a1 :: a2 :: a3 :: a4 :: a5 :: a6 :: a7 :: a8 :: a9 :: a10 :: a11 :: a12 :: a13 :: a14 :: a15 :: a16 :: a17 :: a18 :: a19 :: a20 :: a21 :: a22 :: a23 :: a24 :: some (.int x) :: t) q st) : V l G y cc nL ret R mc ms Z post L M cells slots (a0 :: a1 :: a2 :: a3 :: a4 :: a5 :: a6 :: a7 :: a8 :: a9 :: a10 :: a11 :: a12 :: a13 :: a14 :: a15 :: a16 :: a17 :: a18 :: a19 :: a20 :: a21 :: a22 :: a23 :: a24 :: b :: t) pc (.int x :: st) := by
  subst hq
  intro p e s m args below meth c r0 r H locs ls hC hZ hW hR hlo hls
  exact lv_istore hC.1 hC.2.1 d hls.1 hn rfl (fun ls' h' => k p e s m args below meth c r0 r H locs ls' hC hZ hW hR hlo (gH.set (i := 25) (v := .int x) hls.2 rfl h'))
theorem V_as25 (q : Nat) {a0 a1 a2 a3 a4 a5 a6 a7 a8 a9 a10 a11 a12 a13 a14 a15 a16 a17 a18 a19 a20 a21 a22 a23 a24 b : Option Value} {t : List (Option Value)} {x : Nat} (d : decode cc pc = .ok (.astore 25, 2)) (hn : 25 < nL) (hq : pc + 2 = q) (k : V l G y cc nL ret R mc ms Z post L M cells slots (a0 :: a1 :: a2 :: a3 :: a4 :: a5 :: a6 :: a7 :: a8 :: a9 :: a10 :: a11 :: a12 :: a13 :: a14 :: a15 :: a16 :: a17 :: a18 :: a19 :: a20 :: a21 :: a22 :: a23 :: a24 :: some (.ref x) :: t) q st) : V l G y cc nL ret R mc ms Z post L M cells slots (a0 :: a1 :: a2 :: a3 :: a4 :: a5 :: a6 :: a7 :: a8 :: a9 :: a10 :: a11 :: a12 :: a13 :: a14 :: a15 :: a16 :: a17 :: a18 :: a19 :: a20 :: a21 :: a22 :: a23 :: a24 :: b :: t) pc (.ref x :: st) := by
  subst hq
  intro p e s m args below meth c r0 r H locs ls hC hZ hW hR hlo hls
  exact lv_astore hC.1 hC.2.1 d hls.1 hn rfl (fun ls' h' => k p e s m args below meth c r0 r H locs ls' hC hZ hW hR hlo (gH.set (i := 25) (v := .ref x) hls.2 rfl h'))
theorem V_az25 (q : Nat) {a0 a1 a2 a3 a4 a5 a6 a7 a8 a9 a10 a11 a12 a13 a14 a15 a16 a17 a18 a19 a20 a21 a22 a23 a24 b : Option Value} {t : List (Option Value)}  (d : decode cc pc = .ok (.astore 25, 2)) (hn : 25 < nL) (hq : pc + 2 = q) (k : V l G y cc nL ret R mc ms Z post L M cells slots (a0 :: a1 :: a2 :: a3 :: a4 :: a5 :: a6 :: a7 :: a8 :: a9 :: a10 :: a11 :: a12 :: a13 :: a14 :: a15 :: a16 :: a17 :: a18 :: a19 :: a20 :: a21 :: a22 :: a23 :: a24 :: some (.null) :: t) q st) : V l G y cc nL ret R mc ms Z post L M cells slots (a0 :: a1 :: a2 :: a3 :: a4 :: a5 :: a6 :: a7 :: a8 :: a9 :: a10 :: a11 :: a12 :: a13 :: a14 :: a15 :: a16 :: a17 :: a18 :: a19 :: a20 :: a21 :: a22 :: a23 :: a24 :: b :: t) pc (.null :: st) := by
  subst hq
  intro p e s m args below meth c r0 r H locs ls hC hZ hW hR hlo hls
  exact lv_astoreN hC.1 hC.2.1 d hls.1 hn rfl (fun ls' h' => k p e s m args below meth c r0 r H locs ls' hC hZ hW hR hlo (gH.set (i := 25) (v := .null) hls.2 rfl h'))
theorem V_ii25 (q : Nat) {a0 a1 a2 a3 a4 a5 a6 a7 a8 a9 a10 a11 a12 a13 a14 a15 a16 a17 a18 a19 a20 a21 a22 a23 a24 : Option Value} {t : List (Option Value)} {x v : Int32} {n : Int} (d : decode cc pc = .ok (.iinc 25 n, 3)) (hn : 25 < nL) (hv : Int32.ofInt n = v) (hq : pc + 3 = q) (k : V l G y cc nL ret R mc ms Z post L M cells slots (a0 :: a1 :: a2 :: a3 :: a4 :: a5 :: a6 :: a7 :: a8 :: a9 :: a10 :: a11 :: a12 :: a13 :: a14 :: a15 :: a16 :: a17 :: a18 :: a19 :: a20 :: a21 :: a22 :: a23 :: a24 :: some (.int (x + v)) :: t) q st) : V l G y cc nL ret R mc ms Z post L M cells slots (a0 :: a1 :: a2 :: a3 :: a4 :: a5 :: a6 :: a7 :: a8 :: a9 :: a10 :: a11 :: a12 :: a13 :: a14 :: a15 :: a16 :: a17 :: a18 :: a19 :: a20 :: a21 :: a22 :: a23 :: a24 :: some (.int x) :: t) pc st := by
  subst hq
  subst hv
  intro p e s m args below meth c r0 r H locs ls hC hZ hW hR hlo hls
  obtain ⟨k9, hk9⟩ := List.getElem?_of_mem (gP_mem.mpr ⟨.int x, rfl, rfl⟩ : (25, Value.int x) ∈ gP r (a0 :: a1 :: a2 :: a3 :: a4 :: a5 :: a6 :: a7 :: a8 :: a9 :: a10 :: a11 :: a12 :: a13 :: a14 :: a15 :: a16 :: a17 :: a18 :: a19 :: a20 :: a21 :: a22 :: a23 :: a24 :: some (.int x) :: t))
  exact lv_iinc hC.1 hC.2.1 d hls.1 hk9 rfl hn rfl (fun ls' h' => k p e s m args below meth c r0 r H locs ls' hC hZ hW hR hlo (gH.set (i := 25) (v := .int (x + Int32.ofInt n)) hls.2 rfl h'))
/-- more room is counted -/
theorem V_widen (k9 n9 : Nat) (h1 : cells ≤ k9) (h2 : slots ≤ n9) (k : V l G y cc nL ret R mc ms Z post L M k9 n9 lv pc st) : V l G y cc nL ret R mc ms Z post L M cells slots lv pc st := by
  intro p e s m args below meth c r0 r H locs ls hC hZ hW hR hlo hls
  exact W.widen h1 h2 (k p e s m args below meth c r0 r H locs ls hC hZ hW hR hlo hls)
end gRows
end
section
/-! the memory changes -/
theorem gP1 {D : va_G} {cl : List vw_C} {x : Nat × va_E} {H : Heap} (h : va_at D cl x H) : va_P D cl [x] H := by
  intro k z hk
  cases k with
  | zero => cases hk; exact h
  | succ k => simp at hk
def gst (M : gMe) (a k : Nat) (x : Int32) : gMe := va_up M a (upd (M a) k x)
theorem gst_at (M : gMe) (a k : Nat) (x : Int32) (b j : Nat) : gst M a k x b j = if b = a then (if j = k then x else M a j) else M b j := by
  unfold gst va_up upd
  by_cases h : b = a
  · simp [h]
  · simp [h]
theorem gst_same (M : gMe) (a k : Nat) (x : Int32) : gst M a k x a = upd (M a) k x := by simp [gst, va_up]
theorem gst_ne (M : gMe) (a k : Nat) (x : Int32) {b : Nat} (h : b ≠ a) : gst M a k x b = M b := by simp [gst, va_up, h]
theorem va_up_id {α : Type} (f : Nat → α) (a : Nat) : va_up f a (f a) = f := by
  funext b
  by_cases h : b = a
  · subst h; simp [va_up]
  · simp [va_up, h]
theorem gR.up {G : gG} {r : Nat → Nat} {L : gLy} {M : gMe} {H H' : Heap} {a : Nat} {kd kd' : gK} {u' : Nat → Int32} (hR : gR G r L M H) (hL : L a = some kd) (hat : va_at G.1 vwCl (r a, gE G.2.1 r kd' u') H') (hcl : ∀ b, gRf kd' b → b < 2 ∨ L b ≠ none)
    (z : H'.size = H.size) (oq : ∀ q : Nat, q ≠ r a → H'[q]? = H[q]?) : gR G r (va_up L a (some kd')) (va_up M a u') H' := by
  obtain ⟨h1, h2, h3, h4, h5, h6⟩ := hR
  have hne : ∀ b, va_up L a (some kd') b ≠ none ↔ L b ≠ none := by
    intro b
    by_cases hb : b = a
    · subst hb; simp [va_up, hL]
    · simp [va_up, hb]
  refine ⟨fun b k hb => ?_, fun b c hb hc => h2 b c ((hne b).mp hb) ((hne c).mp hc), fun b k hb x hx => ?_, h4, by omega, fun q hq => ?_⟩
  · by_cases hba : b = a
    · subst hba
      rw [va_up_self] at hb
      cases hb
      rw [va_up_self]
      exact ⟨hat, (h1 b kd hL).2⟩
    · rw [va_up_ne _ _ hba] at hb
      rw [va_up_ne _ _ hba]
      obtain ⟨g1, g2⟩ := h1 b k hb
      exact ⟨g1.kept (oq _ (fun e => hba (h2 b a (by rw [hb]; exact fun h => by cases h) (by rw [hL]; exact fun h => by cases h) e))), g2⟩
  · rw [hne x]
    by_cases hba : b = a
    · subst hba
      rw [va_up_self] at hb
      cases hb
      exact hcl x hx
    · rw [va_up_ne _ _ hba] at hb
      exact h3 b k hb x hx
  · have hB := (h1 a kd hL).2.1
    rw [oq q (by omega)]
    exact h6 q hq
theorem gR.upM {G : gG} {r : Nat → Nat} {L : gLy} {M : gMe} {H H' : Heap} {a : Nat} {kd : gK} {u' : Nat → Int32} (hR : gR G r L M H) (hL : L a = some kd) (hat : va_at G.1 vwCl (r a, gE G.2.1 r kd u') H')
    (z : H'.size = H.size) (oq : ∀ q : Nat, q ≠ r a → H'[q]? = H[q]?) : gR G r L (va_up M a u') H' := by
  have h := gR.up hR hL hat (hR.2.2.1 a kd hL) z oq
  rw [← hL, va_up_id] at h
  exact h
theorem gR.new {G : gG} {r : Nat → Nat} {L : gLy} {M : gMe} {H H' : Heap} {a : Nat} {kd : gK} (hR : gR G r L M H) (hL : L a = none) (h2a : 2 ≤ a) (hat : va_at G.1 vwCl (H.size, gE G.2.1 (va_up r a H.size) kd (fun _ => 0)) H') (hcl : ∀ b, gRf kd b → b < 2 ∨ L b ≠ none)
    (z : H'.size = H.size + 1) (oq : ∀ q : Nat, q < H.size → H'[q]? = H[q]?) : gR G (va_up r a H.size) (va_up L a (some kd)) (va_up M a (fun _ => 0)) H' := by
  obtain ⟨h1, h2, h3, h4, h5, h6⟩ := hR
  have hlt : ∀ b k, L b = some k → r b < H.size := fun b k hb => (h1 b k hb).1.lt
  have hex : ∀ b, L b ≠ none → ∃ k, L b = some k := fun b hb => by
    cases hk : L b with
    | none => exact absurd hk hb
    | some k => exact ⟨k, rfl⟩
  refine ⟨fun b k hb => ?_, fun b c hb hc hbc => ?_, fun b k hb x hx => ?_, fun i hi => ?_, by omega, fun q hq => ?_⟩
  · by_cases hba : b = a
    · subst hba
      rw [va_up_self] at hb
      cases hb
      rw [va_up_self, va_up_self]
      exact ⟨hat, h5, h2a⟩
    · rw [va_up_ne _ _ hba] at hb
      rw [va_up_ne _ _ hba, va_up_ne _ _ hba]
      obtain ⟨g1, g2⟩ := h1 b k hb
      have e : gE G.2.1 (va_up r a H.size) k (M b) = gE G.2.1 r k (M b) := gE_eq (fun x hx => by
        rw [va_up_ne]
        rintro rfl
        rcases h3 b k hb x hx with h | h
        · omega
        · exact h hL)
      rw [e]
      exact ⟨g1.kept (oq _ g1.lt), g2⟩
  · by_cases hba : b = a
    · by_cases hca : c = a
      · rw [hba, hca]
      · subst hba
        rw [va_up_ne _ _ hca] at hc
        obtain ⟨k, hk⟩ := hex c hc
        rw [va_up_self, va_up_ne _ _ hca] at hbc
        have := hlt c k hk
        omega
    · rw [va_up_ne _ _ hba] at hb
      obtain ⟨k, hk⟩ := hex b hb
      by_cases hca : c = a
      · subst hca
        rw [va_up_self, va_up_ne _ _ hba] at hbc
        have := hlt b k hk
        omega
      · rw [va_up_ne _ _ hca] at hc
        rw [va_up_ne _ _ hba, va_up_ne _ _ hca] at hbc
        exact h2 b c hb hc hbc
  · have up : ∀ x, L x ≠ none → va_up L a (some kd) x ≠ none := by
      intro x hx
      by_cases hxa : x = a
      · subst hxa; rw [va_up_self]; exact fun h => by cases h
      · rw [va_up_ne _ _ hxa]; exact hx
    by_cases hba : b = a
    · subst hba
      rw [va_up_self] at hb
      cases hb
      exact (hcl x hx).imp id (up x)
    · rw [va_up_ne _ _ hba] at hb
      exact (h3 b k hb x hx).imp id (up x)
  · rw [va_up_ne _ _ (by omega)]
    exact h4 i hi
  · rw [oq q (by omega)]
    exact h6 q hq
/-- a place is given up: nothing refers to it -/
theorem gR.drop {G : gG} {r : Nat → Nat} {L : gLy} {M : gMe} {H : Heap} {a : Nat} (hR : gR G r L M H) (hno : ∀ b k, L b = some k → b ≠ a → ¬ gRf k a) : gR G r (va_up L a none) M H := by
  obtain ⟨h1, h2, h3, h4, h5, h6⟩ := hR
  have dn : ∀ x k, va_up L a none x = some k → x ≠ a ∧ L x = some k := by
    intro x k hx
    by_cases hxa : x = a
    · subst hxa; rw [va_up_self] at hx; cases hx
    · rw [va_up_ne _ _ hxa] at hx; exact ⟨hxa, hx⟩
  have dn' : ∀ x, va_up L a none x ≠ none → L x ≠ none := by
    intro x hx
    by_cases hxa : x = a
    · subst hxa; rw [va_up_self] at hx; exact absurd rfl hx
    · rw [va_up_ne _ _ hxa] at hx; exact hx
  refine ⟨fun b k hb => h1 b k (dn b k hb).2, fun b c hb hc => h2 b c (dn' b hb) (dn' c hc), fun b k hb x hx => ?_, h4, h5, h6⟩
  obtain ⟨hba, hb'⟩ := dn b k hb
  have hxa : x ≠ a := by rintro rfl; exact hno b k hb' hba hx
  rw [va_up_ne _ _ hxa]
  exact h3 b k hb' x hx
/-- the references that a frame holds -/
def gcl (Z : Nat → Prop) (lv : List (Option Value)) (st : List Value) : Prop := (∀ a, some (Value.ref a) ∈ lv → Z a) ∧ ∀ a, Value.ref a ∈ st → Z a
theorem gcl_all {lv : List (Option Value)} {st : List Value} : gcl (fun _ => True) lv st := ⟨fun _ _ => trivial, fun _ _ => trivial⟩
theorem gst_re {r r' : Nat → Nat} {st : List Value} (h : ∀ a, Value.ref a ∈ st → r' a = r a) : st.map (gV r') = st.map (gV r) := List.map_congr_left (fun v hv => gV_eq (fun a ha => h a (by subst ha; exact hv)))
/-- a class's table -/
def gCl (ci : Nat) (C : String) (T : u_T) (N : Nat) (ty : Nat → FieldType) : Prop := vwCl[ci]? = some (C, T, N) ∧ (∀ w ∈ u_ws C T N, w ∈ TB) ∧ (∀ k, k < N → parseFieldDescriptor (T k).2.2.1 = some (ty k)) ∧ ∀ a, a < N → ∀ b, b < N → a ≠ b → (T a).2.1 ≠ (T b).2.1
def gFl (own : String) (index : Nat) (ref nm ds : String) : Prop := Cond.fieldLink own index ref nm ds ∈ TB ∨ ∃ host, Cond.fieldLinkNest own index ref nm ds host ∈ NB
def gSf (ref O nm ds : String) : Prop := ref = O ∨ Cond.sameField ref O nm ds ∈ TB
theorem gSf.use {G : gG} {s : State} {args : Array Value} {ref O nm ds : String} (h : gSf ref O nm ds) (hW : gW G s) : ∀ x, s.fieldFound? O nm ds = some x → s.fieldFound? ref nm ds = some x := by
  rcases h with rfl | h
  · exact fun _ h => h
  · exact fun x hx => u_same (args := args) (hW.t h) x hx
section gMem
variable {l : Launch} {G : gG} {y : MethodName} {cc : ByteArray} {nL : Nat} {ret : Option FieldType} {R : Room} {mc ms : Nat} {Z : Nat → Prop} {post : Option Value → gLy → gMe → Prop} {L : gLy} {M : gMe} {cells slots : Nat} {lv : List (Option Value)} {pc : Nat} {st : List Value}
theorem V_getv (q k : Nat) {a ci index N : Nat} {C ref : String} {T : u_T} {ty : Nat → FieldType} {fs : List (Option Value)} {o : Option Value} {v : Value} (hL : L a = some (.inr (ci, fs))) (hc : gCl ci C T N ty) (hk : k < N) (hl : gFl y.cls index ref (T k).2.1 (T k).2.2.1) (hs : gSf ref (T k).1 (T k).2.1 (T k).2.2.1) (hf : fs[k]? = some o) (hv : ∀ r, gO r (M a k) o = gV r v) (d : decode cc pc = .ok (.getfield index, 3)) (hq : pc + 3 = q)
    (kk : V l G y cc nL ret R mc ms Z post L M cells slots lv q (v :: st)) : V l G y cc nL ret R mc ms Z post L M cells slots lv pc (.ref a :: st) := by
  subst hq
  intro p e s m args below meth c r0 r H locs ls hC hZ hW hR hlo hls
  have hP := gP1 (hR.1 a _ hL).1
  have hv' : (gF r (M a) fs)[k]? = some (gV r v) := by rw [gF_at, hf]; exact congrArg some (hv r)
  rcases hl with hl | ⟨host, hl⟩
  · exact va_get (Ts := TB) hC.1 hC.2.1 (fun w hw => hW.t hw) hc.2.1 hC.2.2.2.2.1 hW.2.2.1 hP 0 rfl hc.1 k hk (hW.t hl) (hs.use (args := args) hW) hv' d (kk p e s m args below meth c r0 r H locs ls hC hZ hW hR hlo hls)
  · exact va_getN (Ts := TB) hC.1 hC.2.1 (fun w hw => hW.t hw) hc.2.1 hC.2.2.2.2.1 hW.2.2.1 hP 0 rfl hc.1 k hk (va_Nw.use rfl (hW.2.1 _ hl)) (hs.use (args := args) hW) hv' d (kk p e s m args below meth c r0 r H locs ls hC hZ hW hR hlo hls)
/-- an int field -/
theorem V_geti (q k : Nat) {a ci index N : Nat} {C ref : String} {T : u_T} {ty : Nat → FieldType} {fs : List (Option Value)} (hL : L a = some (.inr (ci, fs))) (hc : gCl ci C T N ty) (hk : k < N) (hl : gFl y.cls index ref (T k).2.1 (T k).2.2.1) (hs : gSf ref (T k).1 (T k).2.1 (T k).2.2.1) (hf : fs[k]? = some none) (d : decode cc pc = .ok (.getfield index, 3)) (hq : pc + 3 = q)
    (kk : V l G y cc nL ret R mc ms Z post L M cells slots lv q (.int (M a k) :: st)) : V l G y cc nL ret R mc ms Z post L M cells slots lv pc (.ref a :: st) :=
  V_getv q k hL hc hk hl hs hf (fun _ => rfl) d hq kk
/-- a reference field -/
theorem V_getr (q k : Nat) {a ci index N : Nat} {C ref : String} {T : u_T} {ty : Nat → FieldType} {fs : List (Option Value)} {v : Value} (hL : L a = some (.inr (ci, fs))) (hc : gCl ci C T N ty) (hk : k < N) (hl : gFl y.cls index ref (T k).2.1 (T k).2.2.1) (hs : gSf ref (T k).1 (T k).2.1 (T k).2.2.1) (hf : fs[k]? = some (some v)) (d : decode cc pc = .ok (.getfield index, 3)) (hq : pc + 3 = q)
    (kk : V l G y cc nL ret R mc ms Z post L M cells slots lv q (v :: st)) : V l G y cc nL ret R mc ms Z post L M cells slots lv pc (.ref a :: st) :=
  V_getv q k hL hc hk hl hs hf (fun _ => rfl) d hq kk
/-- a field is written: what comes of it in the heap -/
theorem gput {p : Program} {e : Env} {s : State} {m : MethodId} {args : Array Value} {below : List Frame} {meth : Method} {c : Code} {r : Nat → Nat} {H : Heap} {locs : List Loc} {ls : Array Slot} {Q : State → Prop} {st' : List Value} (k : Nat) {a ci index N : Nat} {C ref : String} {T : u_T} {ty : Nat → FieldType} {fs : List (Option Value)} {v : Value}
    (hC : gC p s m meth c y cc nL ret) (hW : gW G s) (hR : gR G r L M H) (hL : L a = some (.inr (ci, fs))) (hc : gCl ci C T N ty) (hk : k < N) (hl : gFl y.cls index ref (T k).2.1 (T k).2.2.1) (hs : gSf ref (T k).1 (T k).2.1 (T k).2.2.1) (hfin : (T k).2.2.2 = false) (hn : narrow (ty k) v = v) (hfit : fits (ty k) v = true) (hlen : k < fs.length) (d : decode cc pc = .ok (.putfield index, 3))
    (kk : ∀ (H' : Heap) (z9 : Nat), va_at G.1 vwCl (r a, .inr (ci, (gF r (M a) fs).set k v)) H' → H'.size = H.size → (∀ q : Nat, q ≠ r a → H'[q]? = H[q]?) → W p l e R s m args below meth c H' (locs ++ [⟨r a, z9⟩]) cells slots Q (F0 m (pc + 3) ls st')) : W p l e R s m args below meth c H locs cells slots Q (F0 m pc ls (v :: .ref (r a) :: st')) := by
  have hap := va_apart (own := y.cls) (Ts := TB) (args := args) (fun w hw => hW.t hw) hc.2.1 ty hc.2.2.1 hc.2.2.2 hW.2.2.1 hc.1
  obtain ⟨r9, g1, cell, q1, q2, q3, q4⟩ := (hR.1 a _ hL).1
  have hr : r9 = (C, T, N) := Option.some.inj (g1.symm.trans hc.1)
  subst hr
  obtain ⟨hS, hfc, kC, hkC, hkind⟩ := hW.2.2.1.1 ci _ hc.1
  obtain ⟨cf, kf, fi, f, hi, hsl⟩ := hS k hk
  have hlay : (u_lay C T k).before args s = true := hW.t (hc.2.1 _ (u_in_lay hk))
  unfold u_lay at hlay
  rw [if_neg (by rw [hfin]; decide)] at hlay
  have hst := (u_facts hfc hkC (Or.inl hlay) hi).1
  have h6 := u_store hfc hkC hkind hlay hi (hc.2.2.1 k hk) hn hfit
  have hlen' : k < (gF r (M a) fs).length := by rw [gF_len]; exact hlen
  rcases hl with hl | ⟨host, hl⟩
  · refine W.putK hC.1 hC.2.1 (f := f) ⟨hC.2.2.2.2.1, hW.t hl, ⟨_, _, _, hs.use (args := args) hW _ hi⟩, hst⟩ (by rw [q2]; exact h6) q1 q3 (by rw [hsl]; exact k2_hasslot (q4 k hk)) rfl rfl d fun H' e1 e2 e3 => ?_
    rw [hsl] at e1 ⊢
    exact kk H' _ ⟨_, hc.1, t_OB.to (V := updV (vp_V (gF r (M a) fs)) k v) ⟨_, e1, q2, q3, t_set q4 hap hk v⟩ (fun j _ => vp_updV_set hlen' v j)⟩ e2 e3
  · refine va_WputK hC.1 hC.2.1 (f := f) hC.2.2.2.2.1 (va_Nw.use rfl (hW.2.1 _ hl)) (hs.use (args := args) hW _ hi) hst (by rw [q2]; exact h6) q1 q3 (by rw [hsl]; exact k2_hasslot (q4 k hk)) rfl rfl d fun H' e1 e2 e3 => ?_
    rw [hsl] at e1 ⊢
    exact kk H' _ ⟨_, hc.1, t_OB.to (V := updV (vp_V (gF r (M a) fs)) k v) ⟨_, e1, q2, q3, t_set q4 hap hk v⟩ (fun j _ => vp_updV_set hlen' v j)⟩ e2 e3
/-- the same of a final field in its class's constructor -/
theorem gputF {p : Program} {e : Env} {s : State} {m : MethodId} {args : Array Value} {below : List Frame} {meth : Method} {c : Code} {r : Nat → Nat} {H : Heap} {locs : List Loc} {ls : Array Slot} {Q : State → Prop} {st' : List Value} (k : Nat) {a ci index N : Nat} {C : String} {T : u_T} {ty : Nat → FieldType} {fs : List (Option Value)} {v : Value}
    (hC : gC p s m meth c y cc nL ret) (hW : gW G s) (hR : gR G r L M H) (hL : L a = some (.inr (ci, fs))) (hc : gCl ci C T N ty) (hk : k < N) (hl : Cond.fieldLink y.cls index (T k).1 (T k).2.1 (T k).2.2.1 ∈ TB) (hin : y.name = "<init>") (hdec : (T k).1 = y.cls) (hfin : (T k).2.2.2 = true) (hn : narrow (ty k) v = v) (hfit : fits (ty k) v = true) (hlen : k < fs.length) (d : decode cc pc = .ok (.putfield index, 3))
    (kk : ∀ (H' : Heap) (z9 : Nat), va_at G.1 vwCl (r a, .inr (ci, (gF r (M a) fs).set k v)) H' → H'.size = H.size → (∀ q : Nat, q ≠ r a → H'[q]? = H[q]?) → W p l e R s m args below meth c H' (locs ++ [⟨r a, z9⟩]) cells slots Q (F0 m (pc + 3) ls st')) : W p l e R s m args below meth c H locs cells slots Q (F0 m pc ls (v :: .ref (r a) :: st')) := by
  have hap := va_apart (own := y.cls) (Ts := TB) (args := args) (fun w hw => hW.t hw) hc.2.1 ty hc.2.2.1 hc.2.2.2 hW.2.2.1 hc.1
  obtain ⟨r9, g1, cell, q1, q2, q3, q4⟩ := (hR.1 a _ hL).1
  have hr : r9 = (C, T, N) := Option.some.inj (g1.symm.trans hc.1)
  subst hr
  obtain ⟨hS, hfc, kC, hkC, hkind⟩ := hW.2.2.1.1 ci _ hc.1
  obtain ⟨cf, kf, fi, f, hi, hsl⟩ := hS k hk
  have hlay : (u_lay C T k).before args s = true := hW.t (hc.2.1 _ (u_in_lay hk))
  unfold u_lay at hlay
  rw [if_pos hfin] at hlay
  have hst := (u_facts hfc hkC (Or.inr hlay) hi).1
  have hcf : m.cls = cf := by
    obtain ⟨_, _, c', _, _, _, -, -, hf', -, -, -, hown2, -⟩ := Cond.laysFinal_spec hlay
    have e1 : c' = cf := by have := hi.symm.trans hf'; simp at this; exact this.1.symm
    rw [hdec] at hown2
    rw [← e1]; exact Option.some.inj (hC.2.2.2.2.1.symm.trans hown2)
  have h6 := u_fits hfc hkC hkind (Or.inr hlay) hi (hc.2.2.1 k hk) hn hfit
  have hlen' : k < (gF r (M a) fs).length := by rw [gF_len]; exact hlen
  refine W.putFinK hC.1 hC.2.1 hC.2.2.2.2.1 (hW.t hl) hi hst hcf (hC.2.2.2.2.2.2.trans hin) (by rw [q2]; exact h6) q1 q3 (by rw [hsl]; exact k2_hasslot (q4 k hk)) rfl rfl d fun H' e1 e2 e3 => ?_
  rw [hsl] at e1 ⊢
  exact kk H' _ ⟨_, hc.1, t_OB.to (V := updV (vp_V (gF r (M a) fs)) k v) ⟨_, e1, q2, q3, t_set q4 hap hk v⟩ (fun j _ => vp_updV_set hlen' v j)⟩ e2 e3
theorem glo {B a z9 : Nat} {locs : List Loc} (hlo : ∀ q ∈ locs, B ≤ q.base) (ha : B ≤ a) : ∀ q ∈ locs ++ [⟨a, z9⟩], B ≤ q.base := by
  intro q hq
  rcases List.mem_append.mp hq with h | h
  · exact hlo q h
  · rw [List.mem_singleton] at h
    subst h
    exact ha
theorem V_puti (q k : Nat) {a ci index N : Nat} {C ref : String} {T : u_T} {ty : Nat → FieldType} {fs : List (Option Value)} {x : Int32} (hL : L a = some (.inr (ci, fs))) (hc : gCl ci C T N ty) (hk : k < N) (hl : gFl y.cls index ref (T k).2.1 (T k).2.2.1) (hs : gSf ref (T k).1 (T k).2.1 (T k).2.2.1) (hfin : (T k).2.2.2 = false) (hn : narrow (ty k) (.int x) = .int x) (hfit : fits (ty k) (.int x) = true) (hf : fs[k]? = some none) (d : decode cc pc = .ok (.putfield index, 3)) (hq : pc + 3 = q)
    (kk : V l G y cc nL ret R mc ms Z post L (gst M a k x) cells slots lv q st) : V l G y cc nL ret R mc ms Z post L M cells slots lv pc (.int x :: .ref a :: st) := by
  subst hq
  intro p e s m args below meth c r0 r H locs ls hC hZ hW hR hlo hls
  refine gput k (v := .int x) hC hW hR hL hc hk hl hs hfin hn hfit (List.getElem?_eq_some_iff.mp hf).1 d fun H' z9 g z oq => ?_
  refine kk p e s m args below meth c r0 r H' _ ls hC hZ hW (hR.upM hL ?_ z oq) (glo hlo (hR.1 a _ hL).2.1) hls
  rw [gF_seti r (M a) x hf] at g
  exact g
theorem V_putiF (q k : Nat) {a ci index N : Nat} {C : String} {T : u_T} {ty : Nat → FieldType} {fs : List (Option Value)} {x : Int32} (hL : L a = some (.inr (ci, fs))) (hc : gCl ci C T N ty) (hk : k < N) (hl : Cond.fieldLink y.cls index (T k).1 (T k).2.1 (T k).2.2.1 ∈ TB) (hin : y.name = "<init>") (hdec : (T k).1 = y.cls) (hfin : (T k).2.2.2 = true) (hn : narrow (ty k) (.int x) = .int x) (hfit : fits (ty k) (.int x) = true) (hf : fs[k]? = some none) (d : decode cc pc = .ok (.putfield index, 3)) (hq : pc + 3 = q)
    (kk : V l G y cc nL ret R mc ms Z post L (gst M a k x) cells slots lv q st) : V l G y cc nL ret R mc ms Z post L M cells slots lv pc (.int x :: .ref a :: st) := by
  subst hq
  intro p e s m args below meth c r0 r H locs ls hC hZ hW hR hlo hls
  refine gputF k (v := .int x) hC hW hR hL hc hk hl hin hdec hfin hn hfit (List.getElem?_eq_some_iff.mp hf).1 d fun H' z9 g z oq => ?_
  refine kk p e s m args below meth c r0 r H' _ ls hC hZ hW (hR.upM hL ?_ z oq) (glo hlo (hR.1 a _ hL).2.1) hls
  rw [gF_seti r (M a) x hf] at g
  exact g
/-- what a reference field may get: an object of the memory, a given table, null -/
def gpr (L : gLy) (v : Value) : Prop := ∀ b, v = .ref b → b < 2 ∨ L b ≠ none
theorem gcl_set {L : gLy} {ci k : Nat} {fs : List (Option Value)} {v : Value} (h : ∀ b, gRf (.inr (ci, fs)) b → b < 2 ∨ L b ≠ none) (hv : gpr L v) : ∀ b, gRf (.inr (ci, fs.set k (some v))) b → b < 2 ∨ L b ≠ none := by
  intro b hb
  rcases List.mem_or_eq_of_mem_set (show some (Value.ref b) ∈ fs.set k (some v) from hb) with hb | hb
  · exact h b hb
  · exact hv b (Option.some.inj hb).symm
theorem V_putr (q k : Nat) {a ci index N : Nat} {C ref : String} {T : u_T} {ty : Nat → FieldType} {fs : List (Option Value)} {v : Value} (hL : L a = some (.inr (ci, fs))) (hc : gCl ci C T N ty) (hk : k < N) (hl : gFl y.cls index ref (T k).2.1 (T k).2.2.1) (hs : gSf ref (T k).1 (T k).2.1 (T k).2.2.1) (hfin : (T k).2.2.2 = false) (hn : ∀ r, narrow (ty k) (gV r v) = gV r v) (hfit : ∀ r, fits (ty k) (gV r v) = true) (hlen : k < fs.length) (hv : gpr L v) (d : decode cc pc = .ok (.putfield index, 3)) (hq : pc + 3 = q)
    (kk : V l G y cc nL ret R mc ms Z post (va_up L a (some (.inr (ci, fs.set k (some v))))) M cells slots lv q st) : V l G y cc nL ret R mc ms Z post L M cells slots lv pc (v :: .ref a :: st) := by
  subst hq
  intro p e s m args below meth c r0 r H locs ls hC hZ hW hR hlo hls
  refine gput k (v := gV r v) hC hW hR hL hc hk hl hs hfin (hn r) (hfit r) hlen d fun H' z9 g z oq => ?_
  have h := hR.up (kd' := .inr (ci, fs.set k (some v))) (u' := M a) hL (by rw [gF_setr r (M a) v hlen] at g; exact g) (gcl_set (hR.2.2.1 a _ hL) hv) z oq
  rw [va_up_id] at h
  exact kk p e s m args below meth c r0 r H' _ ls hC hZ hW h (glo hlo (hR.1 a _ hL).2.1) hls
theorem V_putrF (q k : Nat) {a ci index N : Nat} {C : String} {T : u_T} {ty : Nat → FieldType} {fs : List (Option Value)} {v : Value} (hL : L a = some (.inr (ci, fs))) (hc : gCl ci C T N ty) (hk : k < N) (hl : Cond.fieldLink y.cls index (T k).1 (T k).2.1 (T k).2.2.1 ∈ TB) (hin : y.name = "<init>") (hdec : (T k).1 = y.cls) (hfin : (T k).2.2.2 = true) (hn : ∀ r, narrow (ty k) (gV r v) = gV r v) (hfit : ∀ r, fits (ty k) (gV r v) = true) (hlen : k < fs.length) (hv : gpr L v) (d : decode cc pc = .ok (.putfield index, 3)) (hq : pc + 3 = q)
    (kk : V l G y cc nL ret R mc ms Z post (va_up L a (some (.inr (ci, fs.set k (some v))))) M cells slots lv q st) : V l G y cc nL ret R mc ms Z post L M cells slots lv pc (v :: .ref a :: st) := by
  subst hq
  intro p e s m args below meth c r0 r H locs ls hC hZ hW hR hlo hls
  refine gputF k (v := gV r v) hC hW hR hL hc hk hl hin hdec hfin (hn r) (hfit r) hlen d fun H' z9 g z oq => ?_
  have h := hR.up (kd' := .inr (ci, fs.set k (some v))) (u' := M a) hL (by rw [gF_setr r (M a) v hlen] at g; exact g) (gcl_set (hR.2.2.1 a _ hL) hv) z oq
  rw [va_up_id] at h
  exact kk p e s m args below meth c r0 r H' _ ls hC hZ hW h (glo hlo (hR.1 a _ hL).2.1) hls
end gMem
end
section
section gArr
variable {l : Launch} {G : gG} {y : MethodName} {cc : ByteArray} {nL : Nat} {ret : Option FieldType} {R : Room} {mc ms : Nat} {Z : Nat → Prop} {post : Option Value → gLy → gMe → Prop} {L : gLy} {M : gMe} {cells slots : Nat} {lv : List (Option Value)} {pc : Nat} {st : List Value}
theorem V_iald (q : Nat) {a n : Nat} {i : Int32} (hL : L a = some (.inl (0, n, none))) (hin : vp_in i n) (d : decode cc pc = .ok (.iaload, 1)) (hq : pc + 1 = q)
    (kk : V l G y cc nL ret R mc ms Z post L M cells slots lv q (.int (M a i.toNatClampNeg) :: st)) : V l G y cc nL ret R mc ms Z post L M cells slots lv pc (.int i :: .ref a :: st) := by
  subst hq
  intro p e s m args below meth c r0 r H locs ls hC hZ hW hR hlo hls
  exact va_iald hC.1 hC.2.1 hW.2.2.1 (gP1 (hR.1 a _ hL).1) 0 0 rfl rfl hin d (kk p e s m args below meth c r0 r H locs ls hC hZ hW hR hlo hls)
/-- by a number -/
theorem V_ialn (q j : Nat) {a n : Nat} {i : Int32} (hL : L a = some (.inl (0, n, none))) (hi : i = nI j) (hj : j < n) (hn : n < 2 ^ 31) (d : decode cc pc = .ok (.iaload, 1)) (hq : pc + 1 = q)
    (kk : V l G y cc nL ret R mc ms Z post L M cells slots lv q (.int (M a j) :: st)) : V l G y cc nL ret R mc ms Z post L M cells slots lv pc (.int i :: .ref a :: st) := by
  subst hi
  refine V_iald q hL (vp_in_nI hj hn) d hq ?_
  rw [nI_clamp (by omega)]
  exact kk
theorem V_zald (q : Nat) {a n : Nat} {i : Int32} (hL : L a = some (.inl (1, n, none))) (hin : vp_in i n) (d : decode cc pc = .ok (.baload, 1)) (hq : pc + 1 = q)
    (kk : V l G y cc nL ret R mc ms Z post L M cells slots lv q (.int (M a i.toNatClampNeg) :: st)) : V l G y cc nL ret R mc ms Z post L M cells slots lv pc (.int i :: .ref a :: st) := by
  subst hq
  intro p e s m args below meth c r0 r H locs ls hC hZ hW hR hlo hls
  exact va_zald hC.1 hC.2.1 hW.2.2.1 (gP1 (hR.1 a _ hL).1) 0 1 rfl rfl hin d (kk p e s m args below meth c r0 r H locs ls hC hZ hW hR hlo hls)
theorem V_zaln (q j : Nat) {a n : Nat} {i : Int32} (hL : L a = some (.inl (1, n, none))) (hi : i = nI j) (hj : j < n) (hn : n < 2 ^ 31) (d : decode cc pc = .ok (.baload, 1)) (hq : pc + 1 = q)
    (kk : V l G y cc nL ret R mc ms Z post L M cells slots lv q (.int (M a j) :: st)) : V l G y cc nL ret R mc ms Z post L M cells slots lv pc (.int i :: .ref a :: st) := by
  subst hi
  refine V_zald q hL (vp_in_nI hj hn) d hq ?_
  rw [nI_clamp (by omega)]
  exact kk
theorem V_laln (q j : Nat) {a n : Nat} {i : Int32} (hL : L a = some (.inl (2, n, some none))) (hi : i = nI j) (hj : j < n) (hn : n < 2 ^ 31) (d : decode cc pc = .ok (.laload, 1)) (hq : pc + 1 = q)
    (kk : V l G y cc nL ret R mc ms Z post L M cells slots lv q (.long (M a j).toInt64 :: st)) : V l G y cc nL ret R mc ms Z post L M cells slots lv pc (.int i :: .ref a :: st) := by
  subst hq
  subst hi
  intro p e s m args below meth c r0 r H locs ls hC hZ hW hR hlo hls
  have h := kk p e s m args below meth c r0 r H locs ls hC hZ hW hR hlo hls
  rw [show M a j = M a (nI j).toNatClampNeg by rw [nI_clamp (by omega)]] at h
  exact va_lald hC.1 hC.2.1 hW.2.2.1 (gP1 (hR.1 a _ hL).1) 0 2 rfl rfl (vp_in_nI hj hn) d h
theorem V_alen (q : Nat) {a n t : Nat} {f : Option (Option (Nat → Option Nat))} {v : Int32} (ty : FieldType) (hL : L a = some (.inl (t, n, f))) (ht : (tyL G.2.1)[t]? = some (G.2.1 t, ty)) (hv : Int32.ofNat n = v) (d : decode cc pc = .ok (.arraylength, 1)) (hq : pc + 1 = q)
    (kk : V l G y cc nL ret R mc ms Z post L M cells slots lv q (.int v :: st)) : V l G y cc nL ret R mc ms Z post L M cells slots lv pc (.ref a :: st) := by
  subst hq
  intro p e s m args below meth c r0 r H locs ls hC hZ hW hR hlo hls
  have h := (hR.1 a _ hL).1
  have k := kk p e s m args below meth c r0 r H locs ls hC hZ hW hR hlo hls
  rcases f with _ | _ | f
  · exact va_alen (x := (n, .inl (M a))) hC.1 hC.2.1 hW.2.2.1 (gP1 h) 0 t rfl ht hv d k
  · exact va_alen (x := (n, .inr (.inl (fun j => (M a j).toInt64)))) hC.1 hC.2.1 hW.2.2.1 (gP1 h) 0 t rfl ht hv d k
  · exact va_alen (x := (n, .inr (.inr (.inr (.inr (fun j => (f j).map r)))))) hC.1 hC.2.1 hW.2.2.1 (gP1 h) 0 t rfl ht hv d k
theorem V_iast (q : Nat) {a n : Nat} {i x : Int32} (hL : L a = some (.inl (0, n, none))) (hin : vp_in i n) (d : decode cc pc = .ok (.iastore, 1)) (hq : pc + 1 = q)
    (kk : V l G y cc nL ret R mc ms Z post L (gst M a i.toNatClampNeg x) cells slots lv q st) : V l G y cc nL ret R mc ms Z post L M cells slots lv pc (.int x :: .int i :: .ref a :: st) := by
  subst hq
  intro p e s m args below meth c r0 r H locs ls hC hZ hW hR hlo hls
  have hcell : H[r a]? = some (arrV (G.2.1 0) n (fun j => .int (M a j))) := (hR.1 a _ hL).1
  refine W.iast hC.1 hC.2.1 hcell ((hW.2.2.1.2 0 _ rfl).1 n (fun j => .int (M a j))) (fun q => by cases q) (by rw [arrV_size]; exact hin) rfl rfl d fun H' e1 z oq => ?_
  refine kk p e s m args below meth c r0 r H' _ ls hC hZ hW (hR.upM hL ?_ z oq) (glo hlo (hR.1 a _ hL).2.1) hls
  show H'[r a]? = some (arrV (G.2.1 0) n (fun j => .int (upd (M a) i.toNatClampNeg x j)))
  rw [e1, arrV_store]
  congr 2
  funext j
  by_cases hj : j = i.toNatClampNeg
  · subst hj; simp [updV, upd]
  · simp [updV, upd, hj]
theorem V_iasn (q j : Nat) {a n : Nat} {i x : Int32} (hL : L a = some (.inl (0, n, none))) (hi : i = nI j) (hj : j < n) (hn : n < 2 ^ 31) (d : decode cc pc = .ok (.iastore, 1)) (hq : pc + 1 = q)
    (kk : V l G y cc nL ret R mc ms Z post L (gst M a j x) cells slots lv q st) : V l G y cc nL ret R mc ms Z post L M cells slots lv pc (.int x :: .int i :: .ref a :: st) := by
  subst hi
  refine V_iast q hL (vp_in_nI hj hn) d hq ?_
  rw [nI_clamp (by omega)]
  exact kk
theorem V_zasn (q j : Nat) {a n : Nat} {i x : Int32} (hL : L a = some (.inl (1, n, none))) (hi : i = nI j) (hj : j < n) (hn : n < 2 ^ 31) (hx : narrow .boolean (.int x) = .int x) (d : decode cc pc = .ok (.bastore, 1)) (hq : pc + 1 = q)
    (kk : V l G y cc nL ret R mc ms Z post L (gst M a j x) cells slots lv q st) : V l G y cc nL ret R mc ms Z post L M cells slots lv pc (.int x :: .int i :: .ref a :: st) := by
  subst hq
  subst hi
  intro p e s m args below meth c r0 r H locs ls hC hZ hW hR hlo hls
  have hcell : H[r a]? = some (arrV (G.2.1 1) n (fun j => .int (M a j))) := (hR.1 a _ hL).1
  refine W.zast hC.1 hC.2.1 hcell ((hW.2.2.1.2 1 _ rfl).1 n (fun j => .int (M a j))) (fun q => by cases q) (by rw [arrV_size]; exact vp_in_nI hj hn) rfl rfl d fun H' e1 z oq => ?_
  refine kk p e s m args below meth c r0 r H' _ ls hC hZ hW (hR.upM hL ?_ z oq) (glo hlo (hR.1 a _ hL).2.1) hls
  show H'[r a]? = some (arrV (G.2.1 1) n (fun i => .int (upd (M a) j x i)))
  rw [e1, arrV_store, hx, nI_clamp (by omega)]
  congr 2
  funext i
  by_cases hj : i = j
  · subst hj; simp [updV, upd]
  · simp [updV, upd, hj]
theorem V_lasn (q j : Nat) (x : Int32) {a n : Nat} {i : Int32} {w : Int64} (hL : L a = some (.inl (2, n, some none))) (hi : i = nI j) (hj : j < n) (hn : n < 2 ^ 31) (hx : w = x.toInt64) (d : decode cc pc = .ok (.lastore, 1)) (hq : pc + 1 = q)
    (kk : V l G y cc nL ret R mc ms Z post L (gst M a j x) cells slots lv q st) : V l G y cc nL ret R mc ms Z post L M cells slots lv pc (.long w :: .int i :: .ref a :: st) := by
  subst hq
  subst hi
  subst hx
  intro p e s m args below meth c r0 r H locs ls hC hZ hW hR hlo hls
  have hcell : H[r a]? = some (arrV (G.2.1 2) n (fun j => .long ((M a j).toInt64))) := (hR.1 a _ hL).1
  refine W.last hC.1 hC.2.1 hcell ((hW.2.2.1.2 2 _ rfl).1 n (fun j => .long ((M a j).toInt64))) (fun q => by cases q) (by rw [arrV_size]; exact vp_in_nI hj hn) rfl rfl d fun H' e1 z oq => ?_
  refine kk p e s m args below meth c r0 r H' _ ls hC hZ hW (hR.upM hL ?_ z oq) (glo hlo (hR.1 a _ hL).2.1) hls
  show H'[r a]? = some (arrV (G.2.1 2) n (fun i => .long ((upd (M a) j x i).toInt64)))
  rw [e1, arrV_store, nI_clamp (by omega)]
  congr 2
  funext i
  by_cases hj : i = j
  · subst hj; simp [updV, upd]
  · simp [updV, upd, hj]
/-- an object out of an array -/
theorem V_aaln (q j b : Nat) {a n t : Nat} {i : Int32} {f : Nat → Option Nat} (C : String) (hL : L a = some (.inl (t, n, some (some f)))) (ht : (tyL G.2.1)[t]? = some (G.2.1 t, .object C)) (hi : i = nI j) (hj : j < n) (hn : n < 2 ^ 31) (hb : f j = some b) (d : decode cc pc = .ok (.aaload, 1)) (hq : pc + 1 = q)
    (kk : V l G y cc nL ret R mc ms Z post L M cells slots lv q (.ref b :: st)) : V l G y cc nL ret R mc ms Z post L M cells slots lv pc (.int i :: .ref a :: st) := by
  subst hq
  subst hi
  intro p e s m args below meth c r0 r H locs ls hC hZ hW hR hlo hls
  have h := kk p e s m args below meth c r0 r H locs ls hC hZ hW hR hlo hls
  refine va_aldq (f := fun j => (f j).map r) hC.1 hC.2.1 hW.2.2.1 (gP1 (hR.1 a _ hL).1) 0 t rfl ht (vp_in_nI hj hn) d ?_
  rw [nI_clamp (by omega), hb]
  exact h
/-- the ends -/
theorem V_vret (hr : ret = none) (d : decode cc pc = .ok (.return_, 1)) (h : post none L M) : V l G y cc nL ret R mc ms Z post L M mc ms lv pc [] := by
  intro p e s m args below meth c r0 r H locs ls hC hZ hW hR hlo hls
  exact W.vret hC.1 hC.2.1 (hC.2.2.1.trans hr) (fun t ht hW' => ⟨none, L, M, r, rfl, h, hZ, gW.moved hW' hW, by rw [ht]; exact hR⟩) hlo d hC.2.2.2.2.2.1
theorem V_iret {x : Int32} (hr : ret = some .int) (d : decode cc pc = .ok (.ireturn, 1)) (h : post (some (.int x)) L M) : V l G y cc nL ret R mc ms Z post L M mc ms lv pc [.int x] := by
  intro p e s m args below meth c r0 r H locs ls hC hZ hW hR hlo hls
  exact W.iret hC.1 hC.2.1 (hC.2.2.1.trans hr) (fun t ht hW' => ⟨some (.int x), L, M, r, rfl, h, hZ, gW.moved hW' hW, by rw [ht]; exact hR⟩) hlo d hC.2.2.2.2.2.1
theorem V_zret {x : Int32} {ty : FieldType} (hr : ret = some ty) (hn : narrow ty (.int x) = .int x) (d : decode cc pc = .ok (.ireturn, 1)) (h : post (some (.int x)) L M) : V l G y cc nL ret R mc ms Z post L M mc ms lv pc [.int x] := by
  intro p e s m args below meth c r0 r H locs ls hC hZ hW hR hlo hls
  exact W.zret hC.1 hC.2.1 (hC.2.2.1.trans hr) hn (fun t ht hW' => ⟨some (.int x), L, M, r, rfl, h, hZ, gW.moved hW' hW, by rw [ht]; exact hR⟩) hlo d hC.2.2.2.2.2.1
theorem V_aret {v : Value} {rt : FieldType} (hr : ret = some rt) (hrt : (∃ n, rt = .object n) ∨ ∃ t, rt = .array t) (hv : v = .null ∨ ∃ a, v = .ref a) (d : decode cc pc = .ok (.areturn, 1)) (h : post (some v) L M) : V l G y cc nL ret R mc ms Z post L M mc ms lv pc [v] := by
  intro p e s m args below meth c r0 r H locs ls hC hZ hW hR hlo hls
  exact W.aret (v := gV r v) hC.1 hC.2.1 (hC.2.2.1.trans hr) hrt (by rcases hv with rfl | ⟨a, rfl⟩ <;> simp [gV]) (fun t ht hW' => ⟨some v, L, M, r, rfl, h, hZ, gW.moved hW' hW, by rw [ht]; exact hR⟩) hlo d hC.2.2.2.2.2.1
/-- another memory, the same -/
theorem V_mem {L' : gLy} {M' : gMe} (hL : L = L') (hM : M = M') (kk : V l G y cc nL ret R mc ms Z post L' M' cells slots lv pc st) : V l G y cc nL ret R mc ms Z post L M cells slots lv pc st := by
  subst hL; subst hM; exact kk
theorem V_m {M' : gMe} (hM : M = M') (kk : V l G y cc nL ret R mc ms Z post L M' cells slots lv pc st) : V l G y cc nL ret R mc ms Z post L M cells slots lv pc st := by
  subst hM; exact kk
/-- another frame, the same -/
theorem V_fr {lv' : List (Option Value)} {st' : List Value} (h1 : lv = lv') (h2 : st = st') (kk : V l G y cc nL ret R mc ms Z post L M cells slots lv' pc st') : V l G y cc nL ret R mc ms Z post L M cells slots lv pc st := by
  subst h1; subst h2; exact kk
/-- fewer locals are remembered -/
theorem V_forget {lv' : List (Option Value)} (h : ∀ (i : Nat) (v : Value), lv'[i]? = some (some v) → lv[i]? = some (some v)) (kk : V l G y cc nL ret R mc ms Z post L M cells slots lv' pc st) : V l G y cc nL ret R mc ms Z post L M cells slots lv pc st := by
  intro p e s m args below meth c r0 r H locs ls hC hZ hW hR hlo hls
  refine kk p e s m args below meth c r0 r H locs ls hC hZ hW hR hlo ⟨⟨hls.1.1, hls.1.2.1, fun q hq => ?_⟩, fun v hv => ?_⟩
  · obtain ⟨v, h1, h2⟩ := gP_mem.mp hq
    exact hls.1.2.2 q (gP_mem.mpr ⟨v, h _ v h1, h2⟩)
  · obtain ⟨i, hi⟩ := List.getElem?_of_mem hv
    exact hls.2 v (List.mem_of_getElem? (h i v hi))
theorem V_drop (a : Nat) (hno : ∀ b k, L b = some k → b ≠ a → ¬ gRf k a) (kk : V l G y cc nL ret R mc ms Z post (va_up L a none) M cells slots lv pc st) : V l G y cc nL ret R mc ms Z post L M cells slots lv pc st := by
  intro p e s m args below meth c r0 r H locs ls hC hZ hW hR hlo hls
  exact kk p e s m args below meth c r0 r H locs ls hC hZ hW (hR.drop hno) hlo hls
end gArr
end
section
/-- a method of ours, as its callers need it -/
def gOK (y1 : MethodName) (cc1 : ByteArray) (nL1 : Nat) (ret1 : Option FieldType) (n1 : Nat) : Prop := Cond.code y1 cc1 nL1 ret1 ∈ TB ∧ Cond.initialized y1.cls ∈ TB ∧ (y1.cls ≠ "java/lang/invoke/MethodHandle" ∧ y1.cls ≠ "java/lang/invoke/VarHandle") ∧ (parseMethodDescriptor y1.desc).map (fun d => d.parameters.length) = some n1
def gMl (own : String) (index : Nat) (y1 : MethodName) : Prop := Cond.methodLink own index y1 ∈ TB ∨ ∃ host, Cond.methodLinkNest own index y1 host ∈ NB
def gRm (R rm1 : Room) (mc1 ms1 nL1 : Nat) : Prop := rm1.cells = mc1 ∧ rm1.slots = ms1 ∧ rm1.frames + 1 ≤ R.frames ∧ 8 + (nL1 + 11) + rm1.locals ≤ R.locals
theorem gblind {G : gG} {r : Nat → Nat} {L : gLy} {M : gMe} {av : List Value} : FrameBlind (va_Pc av (fun U => gW G U ∧ gR G r L M U.heap)) := fun a U g mk q => ⟨q.1, gW.moved (s := U) (U := U.calling g mk a) (State.WarmedH.refl U) q.2.1, q.2.2⟩
theorem gws {G : gG} {s : State} (hW : gW G s) {w0 : Cond} (h : w0 ∈ TB) : ∀ w ∈ [w0], ∀ (a' : Array Value) (U : State), s.WarmedH U.vm → w.before a' U = true := by
  intro w hw a' U hU
  rw [List.mem_singleton] at hw
  subst hw
  exact word_at (args := #[]) hU (good_of_word (TB_good _ h)) (hW.1 _ h)
theorem gsig {y1 : MethodName} {n1 : Nat} (h : (parseMethodDescriptor y1.desc).map (fun d => d.parameters.length) = some n1) : ∀ sig, parseMethodDescriptor y1.desc = some sig → n1 = sig.parameters.length := by
  intro sig hs
  rw [hs] at h
  exact (Option.some.inj h).symm
theorem gcat (r : Nat → Nat) (st : List Value) : (st.map (gV r)).map (fun v => v.category) = st.map (fun v => v.category) := by
  rw [List.map_map]
  exact List.map_congr_left (fun v _ => gV_cat r v)
theorem grev (r : Nat → Nat) (as st : List Value) : (as.reverse ++ st).map (gV r) = (as.map (gV r)).reverse ++ st.map (gV r) := by
  rw [List.map_append, List.map_reverse]
section gCalls
variable {l : Launch} {G : gG} {y : MethodName} {cc : ByteArray} {nL : Nat} {ret : Option FieldType} {R : Room} {mc ms : Nat} {Z : Nat → Prop} {post : Option Value → gLy → gMe → Prop} {L : gLy} {M : gMe} {cells slots : Nat} {lv : List (Option Value)} {pc : Nat} {st : List Value}
variable {y1 : MethodName} {cc1 : ByteArray} {nL1 n1 : Nat} {ret1 : Option FieldType} {rm1 : Room} {as : List Value} {mc1 ms1 index : Nat} {Z1 : Nat → Prop} {post1 : Option Value → gLy → gMe → Prop}
theorem gcall {p : Program} {e : Env} {s : State} {m : MethodId} {args : Array Value} {below : List Frame} {meth : Method} {c : Code} {r0 r : Nat → Nat} {H : Heap} {locs : List Loc} {ls : Array Slot} {a1 : Array Value} {st0 : List Value} (hC : gC p s m meth c y cc nL ret) (hZ : ∀ a, Z a → r a = r0 a) (hW : gW G s) (hlo : ∀ q ∈ locs, G.2.2.1 ≤ q.base) (hls : gH ls nL r lv)
    (hr : va_Run p l e R s m args below meth c H locs cells slots mc1 ms1 (F0 m pc ls st0) (st.map (gV r)) (gQ G r Z1 post1 a1) (fun q => G.2.2.1 ≤ q)) (hZ1 : ∀ a, Z a → Z1 a) (hcl : gcl Z1 lv st)
    (kk : ∀ v L' M', post1 v L' M' → V l G y cc nL ret R mc ms Z post L' M' (cells + mc1) (slots + ms1) lv (pc + 3) (v.toList ++ st)) : W p l e R s m args below meth c H locs cells slots (MQ below (gQ G r0 Z post) args s mc ms (fun q => G.2.2.1 ≤ q)) (F0 m pc ls st0) := by
  intro T hT X
  obtain ⟨v, st₀, t, T', L9, h0, X', hL, e1, e2, ⟨v', L', M', r', hv, hp, hz, hw, hR'⟩, stp⟩ := hr T hT X
  cases hv
  have hst : (v'.toList ++ st).map (gV r') = (v'.map (gV r')).toList ++ st.map (gV r) := by
    rw [List.map_append, gst_re (r := r) (r' := r') (fun a ha => hz a (hcl.2 a ha))]
    cases v' <;> rfl
  have h := kk v' L' M' hp p e s m args below meth c r0 r' T'.heap (locs ++ L9) ls hC (fun a ha => (hz a (hZ1 a ha)).trans (hZ a ha)) hW (by rw [e1]; exact hR') (by
    intro q hq
    rcases List.mem_append.mp hq with hq | hq
    · exact hlo q hq
    · exact hL q hq) (hls.re (fun a ha => hz a (hcl.1 a ha)))
  rw [hst] at h
  obtain ⟨t2, a2, b2⟩ := h T' rfl X'
  exact ⟨t2, stp t2 a2, b2⟩
theorem V_callS (q : Nat) {st0 : List Value} (hM : gMet l G y1 cc1 nL1 ret1 rm1 as L M Z1 post1 mc1 ms1) (ok : gOK y1 cc1 nL1 ret1 n1) (hl : gMl y.cls index y1) (hk : Cond.static y1 ∈ TB) (hrm : gRm R rm1 mc1 ms1 nL1) (hn : as.length = n1) (hs0 : st0 = as.reverse ++ st) (hrest : (st.map fun v => v.category).sum ≤ 8) (d : decode cc pc = .ok (.invokestatic index, 3)) (hf : cells + mc1 ≤ R.cells ∧ slots + ms1 ≤ R.slots) (hZ1 : ∀ a, Z a → Z1 a) (hcl : gcl Z1 lv st) (hq : pc + 3 = q)
    (kk : ∀ v L' M', post1 v L' M' → V l G y cc nL ret R mc ms Z post L' M' (cells + mc1) (slots + ms1) lv q (v.toList ++ st)) : V l G y cc nL ret R mc ms Z post L M cells slots lv pc st0 := by
  subst hq
  subst hs0
  intro p e s m args below meth c r0 r H locs ls hC hZ hW hR hlo hls
  rw [grev]
  have hp : PreS s H (va_Pc (as.map (gV r)) (fun U => gW G U ∧ gR G r L M U.heap)) (as.map (gV r)) := ⟨gblind, fun U hU hWU => ⟨rfl, gW.moved hWU hW, by rw [hU]; exact hR⟩⟩
  have S : CallFix p m c cc nL s args TB y.cls := ⟨hC.1, hC.2.1, hC.2.2.2.1, hC.2.2.2.2.1, fun w hw => hW.t hw⟩
  have hrm8 : 2 * (F0 m pc ls ((as.map (gV r)).reverse ++ st.map (gV r))).monitorRoom + ((st.map (gV r)).map fun v => v.category).sum ≤ 8 := lv_room (by rw [gcat]; exact hrest)
  refine gcall hC hZ hW hlo hls ?_ hZ1 hcl kk (a1 := (as.map (gV r)).toArray)
  rcases hl with hl | ⟨host, hl⟩
  · exact va_runS S (hM r) ⟨⟨hrm.1, hrm.2.1, hrm.2.2.1, hrm.2.2.2, gws hW ok.1, List.mem_singleton.mpr rfl, hW.t ok.1, hW.t ok.2.1, ok.2.2.1, gsig ok.2.2.2, hW.t hl⟩, hW.t hk⟩ hp rfl (by rw [List.length_map]; exact hn) hls.1.1 rfl hrm8 d hf
  · exact va_runSN S (hM r) ⟨⟨⟨hrm.1, hrm.2.1, hrm.2.2.1, hrm.2.2.2, gws hW ok.1, List.mem_singleton.mpr rfl⟩, hW.t ok.1, hW.t ok.2.1, ok.2.2.1, gsig ok.2.2.2, va_Nw.use rfl (hW.2.1 _ hl)⟩, hW.t hk, trivial⟩ hp rfl (by rw [List.length_map]; exact hn) hls.1.1 rfl hrm8 d hf
theorem V_callI (q : Nat) {st0 : List Value} {b : Nat} (hM : gMet l G y1 cc1 nL1 none rm1 (.ref b :: as) L M Z1 post1 mc1 ms1) (ok : gOK y1 cc1 nL1 none n1) (hl : gMl y.cls index y1) (hk : Cond.instanceMethod y1 ∈ TB) (hnm : y1.name = "<init>") (hrm : gRm R rm1 mc1 ms1 nL1) (hn : as.length = n1) (hs0 : st0 = as.reverse ++ .ref b :: st) (hrest : (st.map fun v => v.category).sum ≤ 8) (d : decode cc pc = .ok (.invokespecial index, 3)) (hf : cells + mc1 ≤ R.cells ∧ slots + ms1 ≤ R.slots) (hZ1 : ∀ a, Z a → Z1 a) (hcl : gcl Z1 lv st) (hq : pc + 3 = q)
    (kk : ∀ v L' M', post1 v L' M' → V l G y cc nL ret R mc ms Z post L' M' (cells + mc1) (slots + ms1) lv q (v.toList ++ st)) : V l G y cc nL ret R mc ms Z post L M cells slots lv pc st0 := by
  subst hq
  subst hs0
  intro p e s m args below meth c r0 r H locs ls hC hZ hW hR hlo hls
  rw [grev]
  have hp : PreS s H (va_Pc ((Value.ref b :: as).map (gV r)) (fun U => gW G U ∧ gR G r L M U.heap)) (.ref (r b) :: as.map (gV r)) := ⟨gblind, fun U hU hWU => ⟨rfl, gW.moved hWU hW, by rw [hU]; exact hR⟩⟩
  have S : CallFix p m c cc nL s args TB y.cls := ⟨hC.1, hC.2.1, hC.2.2.2.1, hC.2.2.2.2.1, fun w hw => hW.t hw⟩
  have hrm8 : 2 * (F0 m pc ls ((as.map (gV r)).reverse ++ .ref (r b) :: st.map (gV r))).monitorRoom + ((st.map (gV r)).map fun v => v.category).sum ≤ 8 := lv_room (by rw [gcat]; exact hrest)
  refine gcall hC hZ hW hlo hls ?_ hZ1 hcl kk (a1 := (Value.ref (r b) :: as.map (gV r)).toArray)
  rcases hl with hl | ⟨host, hl⟩
  · exact va_runI S (hM r) ⟨⟨hrm.1, hrm.2.1, hrm.2.2.1, hrm.2.2.2, gws hW ok.1, List.mem_singleton.mpr rfl, hW.t ok.1, hW.t ok.2.1, ok.2.2.1, gsig ok.2.2.2, hW.t hl⟩, hnm, hW.t hk⟩ hp rfl (by rw [List.length_map]; exact hn) hls.1.1 rfl hrm8 d hf
  · exact va_runIN S (hM r) ⟨⟨⟨hrm.1, hrm.2.1, hrm.2.2.1, hrm.2.2.2, gws hW ok.1, List.mem_singleton.mpr rfl⟩, hW.t ok.1, hW.t ok.2.1, ok.2.2.1, gsig ok.2.2.2, va_Nw.use rfl (hW.2.1 _ hl)⟩, hnm, hW.t hk⟩ hp rfl (by rw [List.length_map]; exact hn) hls.1.1 rfl hrm8 d hf
theorem V_callV (q : Nat) {st0 : List Value} {b ci N : Nat} {T : u_T} {ty : Nat → FieldType} {fs : List (Option Value)} (hM : gMet l G y1 cc1 nL1 ret1 rm1 (.ref b :: as) L M Z1 post1 mc1 ms1) (ok : gOK y1 cc1 nL1 ret1 n1) (hl : gMl y.cls index y1) (hk : Cond.instanceMethod y1 ∈ TB) (hsel : Cond.selects y1.cls y1 y1 ∈ TB) (hL : L b = some (.inr (ci, fs))) (hc : gCl ci y1.cls T N ty) (hrm : gRm R rm1 mc1 ms1 nL1) (hn : as.length = n1) (hs0 : st0 = as.reverse ++ .ref b :: st) (hrest : (st.map fun v => v.category).sum ≤ 8) (d : decode cc pc = .ok (.invokevirtual index, 3)) (hf : cells + mc1 ≤ R.cells ∧ slots + ms1 ≤ R.slots) (hZ1 : ∀ a, Z a → Z1 a) (hcl : gcl Z1 lv st) (hq : pc + 3 = q)
    (kk : ∀ v L' M', post1 v L' M' → V l G y cc nL ret R mc ms Z post L' M' (cells + mc1) (slots + ms1) lv q (v.toList ++ st)) : V l G y cc nL ret R mc ms Z post L M cells slots lv pc st0 := by
  subst hq
  subst hs0
  intro p e s m args below meth c r0 r H locs ls hC hZ hW hR hlo hls
  rw [grev]
  have hp : PreV s H y1.cls (r b) (va_Pc ((Value.ref b :: as).map (gV r)) (fun U => gW G U ∧ gR G r L M U.heap)) (as.map (gV r)) := ⟨gblind, va_recv hW.2.2.1 (gP1 (hR.1 b _ hL).1) hc.1 (q0 := 0) rfl, fun U hU hWU => ⟨rfl, gW.moved hWU hW, by rw [hU]; exact hR⟩⟩
  have S : CallFix p m c cc nL s args TB y.cls := ⟨hC.1, hC.2.1, hC.2.2.2.1, hC.2.2.2.2.1, fun w hw => hW.t hw⟩
  have hrm8 : 2 * (F0 m pc ls ((as.map (gV r)).reverse ++ .ref (r b) :: st.map (gV r))).monitorRoom + ((st.map (gV r)).map fun v => v.category).sum ≤ 8 := lv_room (by rw [gcat]; exact hrest)
  refine gcall hC hZ hW hlo hls ?_ hZ1 hcl kk (a1 := (Value.ref (r b) :: as.map (gV r)).toArray)
  rcases hl with hl | ⟨host, hl⟩
  · exact va_runV S (hM r) ⟨⟨hrm.1, hrm.2.1, hrm.2.2.1, hrm.2.2.2, gws hW ok.1, List.mem_singleton.mpr rfl, hW.t ok.1, hW.t ok.2.1, ok.2.2.1, gsig ok.2.2.2, hW.t hl⟩, hW.t hk, hW.t hsel⟩ hp rfl (by rw [List.length_map]; exact hn) hls.1.1 rfl hrm8 d hf
  · exact va_runVN S (hM r) ⟨⟨⟨hrm.1, hrm.2.1, hrm.2.2.1, hrm.2.2.2, gws hW ok.1, List.mem_singleton.mpr rfl⟩, hW.t ok.1, hW.t ok.2.1, ok.2.2.1, gsig ok.2.2.2, va_Nw.use rfl (hW.2.1 _ hl)⟩, hW.t hk, hW.t hsel⟩ hp rfl (by rw [List.length_map]; exact hn) hls.1.1 rfl hrm8 d hf
/-- a contract for a memory that is the same -/
theorem gMet.weak {post2 : Option Value → gLy → gMe → Prop} (h : gMet l G y1 cc1 nL1 ret1 rm1 as L M Z1 post1 mc1 ms1) (hp : ∀ v L' M', post1 v L' M' → post2 v L' M') : gMet l G y1 cc1 nL1 ret1 rm1 as L M Z1 post2 mc1 ms1 := by
  intro r p e ha hc hk s m args below h1 h2 h3 h4
  obtain ⟨k, o, g1, g2, g3, g4, L9, g5, g6⟩ := h r p e ha hc hk s m args below h1 h2 h3 h4
  obtain ⟨v, L', M', r', q1, q2, q3⟩ := g4
  exact ⟨k, o, g1, g2, g3, ⟨v, L', M', r', q1, hp v L' M' q2, q3⟩, L9, g5, g6⟩
end gCalls
section gNew
variable {l : Launch} {G : gG} {y : MethodName} {cc : ByteArray} {nL : Nat} {ret : Option FieldType} {R : Room} {mc ms : Nat} {Z : Nat → Prop} {post : Option Value → gLy → gMe → Prop} {L : gLy} {M : gMe} {cells slots : Nat} {lv : List (Option Value)} {pc : Nat} {st : List Value}
theorem V_new (q a : Nat) {ci index N : Nat} {C : String} {T : u_T} {ty : Nat → FieldType} {fs : List (Option Value)} (hc : gCl ci C T N ty) (hcl : Cond.classLink y.cls index C ∈ TB) (hinst : Cond.instantiable C N ∈ TB) (hini : Cond.initialized C ∈ TB) (hfs : ∀ j, j < N → ∀ r, defaultValue (ty j) = vp_V (gF r (fun _ => 0) fs) j) (hL : L a = none) (h2 : 2 ≤ a) (hZa : ¬ Z a) (hno : gcl (fun x => x ≠ a) lv st) (hnr : ∀ b, some (Value.ref b) ∉ fs) (hcells : cells + 1 ≤ R.cells) (hslots : slots + N ≤ R.slots) (d : decode cc pc = .ok (.new index, 3)) (hq : pc + 3 = q)
    (kk : V l G y cc nL ret R mc ms Z post (va_up L a (some (.inr (ci, fs)))) (va_up M a (fun _ => 0)) (cells + 1) (slots + N) lv q (.ref a :: st)) : V l G y cc nL ret R mc ms Z post L M cells slots lv pc st := by
  subst hq
  intro p e s m args below meth c r0 r H locs ls hC hZ hW hR hlo hls
  have hKn := hW.2.2.1.1 ci _ hc.1
  refine W.newcK hC.1 hC.2.1 hC.2.2.2.2.1 (hW.t hcl) (hW.t hinst) (hW.t hini) rfl d hcells hslots hKn.2.1 rfl fun H1 kC hkC e1 z1 o1 => ?_
  have hn := hR.new (kd := .inr (ci, fs)) hL h2 ⟨_, hc.1, (u_born (ws := TB) (args := args) ty (fun w hw => hW.t hw) hc.2.1 hKn hkC e1 hc.2.2.1).to (fun j hj => hfs j hj (va_up r a H.size))⟩ (fun b hb => absurd hb (hnr b)) z1 o1
  have hre : ∀ x, x ≠ a → va_up r a H.size x = r x := fun x hx => va_up_ne _ _ hx
  have h := kk p e s m args below meth c r0 (va_up r a H.size) H1 locs ls hC (fun x hx => (hre x (fun e => hZa (e ▸ hx))).trans (hZ x hx)) hW hn hlo (hls.re (fun x hx => hre x (hno.1 x hx)))
  have hst : (Value.ref a :: st).map (gV (va_up r a H.size)) = .ref H.size :: st.map (gV r) := by
    rw [List.map_cons, gst_re (r := r) (fun x hx => hre x (hno.2 x hx))]
    simp [gV, va_up]
  rw [hst] at h
  exact h
/-- a new array of ints, booleans or longs -/
theorem V_newa (q a t : Nat) {atype : ArrayType} {n : Int32} {N : Nat} {f : Option (Option (Nat → Option Nat))} {ty : FieldType} (hta : newarray.typeOf atype = ty) (htl : (tyL G.2.1)[t]? = some (G.2.1 t, ty)) (hprim : ∀ C, ty ≠ .object C) (harr : Cond.arrayClass ty ∈ TB) (hE : ∀ r, ∃ x : vp_A, gE G.2.1 r (.inl (t, N, f)) (fun _ => 0) = .inl (G.2.1 t, x) ∧ vp_cell (G.2.1 t) x = arrV (G.2.1 t) N (fun _ => defaultValue ty)) (hfr : ∀ b, ¬ gRf (.inl (t, N, f)) b) (hn : ¬ n < 0) (hN : n.toNatClampNeg = N) (hby : N * componentBytes ty ≤ 536870912) (hL : L a = none) (h2 : 2 ≤ a) (hZa : ¬ Z a) (hno : gcl (fun x => x ≠ a) lv st) (hcells : cells + 1 ≤ R.cells) (hslots : slots + N ≤ R.slots) (d : decode cc pc = .ok (.newarray atype, 2)) (hq : pc + 2 = q)
    (kk : V l G y cc nL ret R mc ms Z post (va_up L a (some (.inl (t, N, f)))) (va_up M a (fun _ => 0)) (cells + 1) (slots + N) lv q (.ref a :: st)) : V l G y cc nL ret R mc ms Z post L M cells slots lv pc (.int n :: st) := by
  subst hq
  subst hta
  intro p e s m args below meth c r0 r H locs ls hC hZ hW hR hlo hls
  refine va_newaK hC.1 hC.2.1 (hW.t harr) rfl d rfl hn hN hby hcells hslots rfl fun H1 cA e1 z1 o1 hAr hNm => ?_
  have hcA : cA = G.2.1 t := by
    have h := (hW.2.2.1.2 t _ htl).2
    have h' : s.vm.findClass ("[" ++ (newarray.typeOf atype).toString) = some (G.2.1 t) := by
      cases atype <;> exact h
    exact Option.some.inj (hNm.symm.trans h')
  subst hcA
  obtain ⟨x, hx1, hx2⟩ := hE (va_up r a H.size)
  have hn9 := hR.new (kd := .inl (t, N, f)) hL h2 (by rw [hx1]; show H1[H.size]? = some (vp_cell _ _); rw [hx2]; exact e1) (fun b hb => absurd hb (hfr b)) z1 o1
  have hre : ∀ x, x ≠ a → va_up r a H.size x = r x := fun x hx => va_up_ne _ _ hx
  have h := kk p e s m args below meth c r0 (va_up r a H.size) H1 locs ls hC (fun x hx => (hre x (fun e => hZa (e ▸ hx))).trans (hZ x hx)) hW hn9 hlo (hls.re (fun x hx => hre x (hno.1 x hx)))
  have hst : (Value.ref a :: st).map (gV (va_up r a H.size)) = .ref H.size :: st.map (gV r) := by
    rw [List.map_cons, gst_re (r := r) (fun x hx => hre x (hno.2 x hx))]
    simp [gV, va_up]
  rw [hst] at h
  exact h
theorem V_objInit (q : Nat) {a index : Nat} (hl : Cond.methodLink y.cls index Lib.objectInit ∈ TB) (hi : Cond.instanceMethod Lib.objectInit ∈ TB) (hco : Cond.code Lib.objectInit ⟨#[0xb1]⟩ 1 none ∈ TB) (hfr : 1 ≤ R.frames) (hlc : (st.map fun v => v.category).sum + 12 ≤ R.locals) (d : decode cc pc = .ok (.invokespecial index, 3)) (hq : pc + 3 = q)
    (kk : V l G y cc nL ret R mc ms Z post L M cells slots lv q st) : V l G y cc nL ret R mc ms Z post L M cells slots lv pc (.ref a :: st) := by
  subst hq
  intro p e s m args below meth c r0 r H locs ls hC hZ hW hR hlo hls
  refine W.objInit hC.1 hC.2.1 hC.2.2.2.2.1 (hW.t hl) (hW.t hi) (hW.t hco) rfl (by rw [hC.2.2.2.1]; exact hls.1.1) rfl d hfr ?_ (kk p e s m args below meth c r0 r H locs ls hC hZ hW hR hlo hls)
  have h0 : (F0 m pc ls ((Value.ref a :: st).map (gV r))).monitorRoom = 0 := rfl
  rw [h0, gcat]
  omega
end gNew
end
section
/-- an end that is known: the answer and the memory -/
def gPo (v0 : Option Value) (L1 : gLy) (M1 : gMe) : Option Value → gLy → gMe → Prop := fun v L' M' => v = v0 ∧ L' = L1 ∧ M' = M1
def gAll : Nat → Prop := fun _ => True
def rmL (d mc ms : Nat) : Room := { frames := d, cells := mc, slots := ms, locals := 64 * d }
theorem gRm_ok {d d1 a b mc1 ms1 nL1 : Nat} (h : d1 < d) (hn : nL1 ≤ 40) : gRm (rmL d a b) (rmL d1 mc1 ms1) mc1 ms1 nL1 := ⟨rfl, rfl, h, by show 8 + (nL1 + 11) + 64 * d1 ≤ 64 * d; omega⟩
section gDet
variable {l : Launch} {G : gG} {y : MethodName} {cc : ByteArray} {nL : Nat} {ret : Option FieldType} {R : Room} {mc ms : Nat} {Z : Nat → Prop} {post : Option Value → gLy → gMe → Prop} {L L1 : gLy} {M M1 : gMe} {cells slots : Nat} {lv : List (Option Value)} {pc : Nat} {st : List Value}
variable {y1 : MethodName} {cc1 : ByteArray} {nL1 n1 : Nat} {ret1 : Option FieldType} {rm1 : Room} {as : List Value} {index : Nat} {w : Value}
theorem V_cS0 (q : Nat) {st0 : List Value} (hM : gMet l G y1 cc1 nL1 ret1 rm1 as L M gAll (gPo none L1 M1) 0 0) (ok : gOK y1 cc1 nL1 ret1 n1) (hl : gMl y.cls index y1) (hk : Cond.static y1 ∈ TB) (hrm : gRm R rm1 0 0 nL1) (hn : as.length = n1) (hs0 : st0 = as.reverse ++ st) (hrest : (st.map fun v => v.category).sum ≤ 8) (d : decode cc pc = .ok (.invokestatic index, 3)) (hf : cells ≤ R.cells ∧ slots ≤ R.slots) (hq : pc + 3 = q)
    (kk : V l G y cc nL ret R mc ms Z post L1 M1 cells slots lv q st) : V l G y cc nL ret R mc ms Z post L M cells slots lv pc st0 :=
  V_callS q hM ok hl hk hrm hn hs0 hrest d hf (fun _ _ => trivial) ⟨fun _ _ => trivial, fun _ _ => trivial⟩ hq (fun v L' M' h => by obtain ⟨rfl, rfl, rfl⟩ := h; exact kk)
theorem V_cS1 (q : Nat) {st0 : List Value} (hM : gMet l G y1 cc1 nL1 ret1 rm1 as L M gAll (gPo (some w) L1 M1) 0 0) (ok : gOK y1 cc1 nL1 ret1 n1) (hl : gMl y.cls index y1) (hk : Cond.static y1 ∈ TB) (hrm : gRm R rm1 0 0 nL1) (hn : as.length = n1) (hs0 : st0 = as.reverse ++ st) (hrest : (st.map fun v => v.category).sum ≤ 8) (d : decode cc pc = .ok (.invokestatic index, 3)) (hf : cells ≤ R.cells ∧ slots ≤ R.slots) (hq : pc + 3 = q)
    (kk : V l G y cc nL ret R mc ms Z post L1 M1 cells slots lv q (w :: st)) : V l G y cc nL ret R mc ms Z post L M cells slots lv pc st0 :=
  V_callS q hM ok hl hk hrm hn hs0 hrest d hf (fun _ _ => trivial) ⟨fun _ _ => trivial, fun _ _ => trivial⟩ hq (fun v L' M' h => by obtain ⟨rfl, rfl, rfl⟩ := h; exact kk)
theorem V_cV0 (q : Nat) {st0 : List Value} {b ci N : Nat} {T : u_T} {ty : Nat → FieldType} {fs : List (Option Value)} (hM : gMet l G y1 cc1 nL1 ret1 rm1 (.ref b :: as) L M gAll (gPo none L1 M1) 0 0) (ok : gOK y1 cc1 nL1 ret1 n1) (hl : gMl y.cls index y1) (hk : Cond.instanceMethod y1 ∈ TB) (hsel : Cond.selects y1.cls y1 y1 ∈ TB) (hL : L b = some (.inr (ci, fs))) (hc : gCl ci y1.cls T N ty) (hrm : gRm R rm1 0 0 nL1) (hn : as.length = n1) (hs0 : st0 = as.reverse ++ .ref b :: st) (hrest : (st.map fun v => v.category).sum ≤ 8) (d : decode cc pc = .ok (.invokevirtual index, 3)) (hf : cells ≤ R.cells ∧ slots ≤ R.slots) (hq : pc + 3 = q)
    (kk : V l G y cc nL ret R mc ms Z post L1 M1 cells slots lv q st) : V l G y cc nL ret R mc ms Z post L M cells slots lv pc st0 :=
  V_callV q hM ok hl hk hsel hL hc hrm hn hs0 hrest d hf (fun _ _ => trivial) ⟨fun _ _ => trivial, fun _ _ => trivial⟩ hq (fun v L' M' h => by obtain ⟨rfl, rfl, rfl⟩ := h; exact kk)
theorem V_cV1 (q : Nat) {st0 : List Value} {b ci N : Nat} {T : u_T} {ty : Nat → FieldType} {fs : List (Option Value)} (hM : gMet l G y1 cc1 nL1 ret1 rm1 (.ref b :: as) L M gAll (gPo (some w) L1 M1) 0 0) (ok : gOK y1 cc1 nL1 ret1 n1) (hl : gMl y.cls index y1) (hk : Cond.instanceMethod y1 ∈ TB) (hsel : Cond.selects y1.cls y1 y1 ∈ TB) (hL : L b = some (.inr (ci, fs))) (hc : gCl ci y1.cls T N ty) (hrm : gRm R rm1 0 0 nL1) (hn : as.length = n1) (hs0 : st0 = as.reverse ++ .ref b :: st) (hrest : (st.map fun v => v.category).sum ≤ 8) (d : decode cc pc = .ok (.invokevirtual index, 3)) (hf : cells ≤ R.cells ∧ slots ≤ R.slots) (hq : pc + 3 = q)
    (kk : V l G y cc nL ret R mc ms Z post L1 M1 cells slots lv q (w :: st)) : V l G y cc nL ret R mc ms Z post L M cells slots lv pc st0 :=
  V_callV q hM ok hl hk hsel hL hc hrm hn hs0 hrest d hf (fun _ _ => trivial) ⟨fun _ _ => trivial, fun _ _ => trivial⟩ hq (fun v L' M' h => by obtain ⟨rfl, rfl, rfl⟩ := h; exact kk)
end gDet
end
section
theorem kc_AL : gCl 0 "java/util/ArrayList" T_AL 3 t_AL := by
  refine ⟨rfl, ?_, by decide +kernel, by decide +kernel⟩
  intro w hw
  obtain ⟨k, hk, rfl⟩ := List.mem_map.mp hw
  have hk := List.mem_range.mp hk
  rcases (show k = 0 ∨ k = 1 ∨ k = 2 by omega) with rfl | rfl | rfl
  · exact tb1 60 rfl rfl
  · exact tb1 62 rfl rfl
  · exact tb1 64 rfl rfl
theorem kc_Lg : gCl 1 "ProofGate$AuditLog" T_Lg 2 t_Lg := by
  refine ⟨rfl, ?_, by decide +kernel, by decide +kernel⟩
  intro w hw
  obtain ⟨k, hk, rfl⟩ := List.mem_map.mp hw
  have hk := List.mem_range.mp hk
  rcases (show k = 0 ∨ k = 1 by omega) with rfl | rfl
  · exact tb1 182 rfl rfl
  · exact tb1 184 rfl rfl
theorem kc_Ck : gCl 2 "ProofGate$Checker" T_Ck 2 t_Ck := by
  refine ⟨rfl, ?_, by decide +kernel, by decide +kernel⟩
  intro w hw
  obtain ⟨k, hk, rfl⟩ := List.mem_map.mp hw
  have hk := List.mem_range.mp hk
  rcases (show k = 0 ∨ k = 1 by omega) with rfl | rfl
  · exact tb1 169 rfl rfl
  · exact tb1 171 rfl rfl
theorem kc_Cr : gCl 3 "ProofGate$Credential" T_Cr 6 t_Cr := by
  refine ⟨rfl, ?_, by decide +kernel, by decide +kernel⟩
  intro w hw
  obtain ⟨k, hk, rfl⟩ := List.mem_map.mp hw
  have hk := List.mem_range.mp hk
  rcases (show k = 0 ∨ k = 1 ∨ k = 2 ∨ k = 3 ∨ k = 4 ∨ k = 5 by omega) with rfl | rfl | rfl | rfl | rfl | rfl
  · exact tb2 26 rfl rfl
  · exact tb2 28 rfl rfl
  · exact tb2 30 rfl rfl
  · exact tb2 32 rfl rfl
  · exact tb2 34 rfl rfl
  · exact tb2 36 rfl rfl
theorem kc_Cs : gCl 4 "ProofGate$Credentials" T_Cs 2 t_Cs := by
  refine ⟨rfl, ?_, by decide +kernel, by decide +kernel⟩
  intro w hw
  obtain ⟨k, hk, rfl⟩ := List.mem_map.mp hw
  have hk := List.mem_range.mp hk
  rcases (show k = 0 ∨ k = 1 by omega) with rfl | rfl
  · exact tb1 70 rfl rfl
  · exact tb1 72 rfl rfl
theorem kc_Fa : gCl 5 "ProofGate$Fact" T_Fa 6 t_Fa := by
  refine ⟨rfl, ?_, by decide +kernel, by decide +kernel⟩
  intro w hw
  obtain ⟨k, hk, rfl⟩ := List.mem_map.mp hw
  have hk := List.mem_range.mp hk
  rcases (show k = 0 ∨ k = 1 ∨ k = 2 ∨ k = 3 ∨ k = 4 ∨ k = 5 by omega) with rfl | rfl | rfl | rfl | rfl | rfl
  · exact tb1 154 rfl rfl
  · exact tb1 156 rfl rfl
  · exact tb1 158 rfl rfl
  · exact tb1 160 rfl rfl
  · exact tb1 162 rfl rfl
  · exact tb1 164 rfl rfl
theorem kc_Fu : gCl 6 "ProofGate$Fuse" T_Fu 1 t_Fu := by
  refine ⟨rfl, ?_, by decide +kernel, by decide +kernel⟩
  intro w hw
  obtain ⟨k, hk, rfl⟩ := List.mem_map.mp hw
  have hk := List.mem_range.mp hk
  rcases (show k = 0 by omega) with rfl
  · exact tb1 194 rfl rfl
theorem kc_Pf : gCl 7 "ProofGate$Proof" T_Pf 4 t_Pf := by
  refine ⟨rfl, ?_, by decide +kernel, by decide +kernel⟩
  intro w hw
  obtain ⟨k, hk, rfl⟩ := List.mem_map.mp hw
  have hk := List.mem_range.mp hk
  rcases (show k = 0 ∨ k = 1 ∨ k = 2 ∨ k = 3 by omega) with rfl | rfl | rfl | rfl
  · exact tb1 85 rfl rfl
  · exact tb1 87 rfl rfl
  · exact tb1 89 rfl rfl
  · exact tb1 91 rfl rfl
theorem kc_Pv : gCl 8 "ProofGate$Prover" T_Pv 9 t_Pv := by
  refine ⟨rfl, ?_, by decide +kernel, by decide +kernel⟩
  intro w hw
  obtain ⟨k, hk, rfl⟩ := List.mem_map.mp hw
  have hk := List.mem_range.mp hk
  rcases (show k = 0 ∨ k = 1 ∨ k = 2 ∨ k = 3 ∨ k = 4 ∨ k = 5 ∨ k = 6 ∨ k = 7 ∨ k = 8 by omega) with rfl | rfl | rfl | rfl | rfl | rfl | rfl | rfl | rfl
  · exact tb1 111 rfl rfl
  · exact tb1 113 rfl rfl
  · exact tb1 115 rfl rfl
  · exact tb1 117 rfl rfl
  · exact tb1 119 rfl rfl
  · exact tb1 121 rfl rfl
  · exact tb1 123 rfl rfl
  · exact tb1 125 rfl rfl
  · exact tb1 127 rfl rfl
theorem kc_Ga : gCl 9 "ProofGate" T_Ga 10 t_Ga := by
  refine ⟨rfl, ?_, by decide +kernel, by decide +kernel⟩
  intro w hw
  obtain ⟨k, hk, rfl⟩ := List.mem_map.mp hw
  have hk := List.mem_range.mp hk
  rcases (show k = 0 ∨ k = 1 ∨ k = 2 ∨ k = 3 ∨ k = 4 ∨ k = 5 ∨ k = 6 ∨ k = 7 ∨ k = 8 ∨ k = 9 by omega) with rfl | rfl | rfl | rfl | rfl | rfl | rfl | rfl | rfl | rfl
  · exact tb1 210 rfl rfl
  · exact tb1 212 rfl rfl
  · exact tb1 214 rfl rfl
  · exact tb1 216 rfl rfl
  · exact tb1 218 rfl rfl
  · exact tb1 220 rfl rfl
  · exact tb1 222 rfl rfl
  · exact tb1 224 rfl rfl
  · exact tb1 226 rfl rfl
  · exact tb1 228 rfl rfl
theorem kc_Mo : gCl 10 "ProofGateModel" T_Mo 38 t_Mo := by
  refine ⟨rfl, ?_, by decide +kernel, by decide +kernel⟩
  intro w hw
  obtain ⟨k, hk, rfl⟩ := List.mem_map.mp hw
  have hk := List.mem_range.mp hk
  rcases (show k = 0 ∨ k = 1 ∨ k = 2 ∨ k = 3 ∨ k = 4 ∨ k = 5 ∨ k = 6 ∨ k = 7 ∨ k = 8 ∨ k = 9 ∨ k = 10 ∨ k = 11 ∨ k = 12 ∨ k = 13 ∨ k = 14 ∨ k = 15 ∨ k = 16 ∨ k = 17 ∨ k = 18 ∨ k = 19 ∨ k = 20 ∨ k = 21 ∨ k = 22 ∨ k = 23 ∨ k = 24 ∨ k = 25 ∨ k = 26 ∨ k = 27 ∨ k = 28 ∨ k = 29 ∨ k = 30 ∨ k = 31 ∨ k = 32 ∨ k = 33 ∨ k = 34 ∨ k = 35 ∨ k = 36 ∨ k = 37 by omega) with rfl | rfl | rfl | rfl | rfl | rfl | rfl | rfl | rfl | rfl | rfl | rfl | rfl | rfl | rfl | rfl | rfl | rfl | rfl | rfl | rfl | rfl | rfl | rfl | rfl | rfl | rfl | rfl | rfl | rfl | rfl | rfl | rfl | rfl | rfl | rfl | rfl | rfl
  · exact tb4 151 rfl rfl
  · exact tb4 153 rfl rfl
  · exact tb4 155 rfl rfl
  · exact tb4 157 rfl rfl
  · exact tb4 159 rfl rfl
  · exact tb4 161 rfl rfl
  · exact tb4 163 rfl rfl
  · exact tb4 165 rfl rfl
  · exact tb4 167 rfl rfl
  · exact tb4 169 rfl rfl
  · exact tb4 171 rfl rfl
  · exact tb4 173 rfl rfl
  · exact tb4 175 rfl rfl
  · exact tb4 177 rfl rfl
  · exact tb4 179 rfl rfl
  · exact tb4 181 rfl rfl
  · exact tb4 183 rfl rfl
  · exact tb4 185 rfl rfl
  · exact tb4 187 rfl rfl
  · exact tb4 189 rfl rfl
  · exact tb4 191 rfl rfl
  · exact tb4 193 rfl rfl
  · exact tb4 195 rfl rfl
  · exact tb4 197 rfl rfl
  · exact tb4 199 rfl rfl
  · exact tb4 201 rfl rfl
  · exact tb4 203 rfl rfl
  · exact tb4 205 rfl rfl
  · exact tb4 207 rfl rfl
  · exact tb4 209 rfl rfl
  · exact tb4 211 rfl rfl
  · exact tb4 213 rfl rfl
  · exact tb4 215 rfl rfl
  · exact tb4 217 rfl rfl
  · exact tb4 219 rfl rfl
  · exact tb4 221 rfl rfl
  · exact tb4 223 rfl rfl
  · exact tb4 225 rfl rfl
theorem ok_Ga_init : gOK y_Ga_init b_Ga_init 2 none 1 := ⟨tb1 31 rfl rfl, tb1 1 rfl rfl, ⟨by decide +kernel, by decide +kernel⟩, by decide +kernel⟩
theorem im_Ga_init : Cond.instanceMethod y_Ga_init ∈ TB := tb1 30 rfl rfl
theorem ok_Cs_init : gOK y_Cs_init b_Cs_init 1 none 0 := ⟨tb1 39 rfl rfl, tb1 2 rfl rfl, ⟨by decide +kernel, by decide +kernel⟩, by decide +kernel⟩
theorem im_Cs_init : Cond.instanceMethod y_Cs_init ∈ TB := tb1 38 rfl rfl
theorem ok_AL_init : gOK y_AL_init b_AL_init 1 none 0 := ⟨tb1 45 rfl rfl, tb1 5 rfl rfl, ⟨by decide +kernel, by decide +kernel⟩, by decide +kernel⟩
theorem im_AL_init : Cond.instanceMethod y_AL_init ∈ TB := tb1 44 rfl rfl
theorem ok_Ab_init : gOK y_Ab_init b_Ab_init 1 none 0 := ⟨tb1 48 rfl rfl, tb1 4 rfl rfl, ⟨by decide +kernel, by decide +kernel⟩, by decide +kernel⟩
theorem im_Ab_init : Cond.instanceMethod y_Ab_init ∈ TB := tb1 47 rfl rfl
theorem ok_Ac_init : gOK y_Ac_init b_Ac_init 1 none 0 := ⟨tb1 51 rfl rfl, tb1 3 rfl rfl, ⟨by decide +kernel, by decide +kernel⟩, by decide +kernel⟩
theorem im_Ac_init : Cond.instanceMethod y_Ac_init ∈ TB := tb1 50 rfl rfl
theorem ok_Pf_init : gOK y_Pf_init b_Pf_init 1 none 0 := ⟨tb1 79 rfl rfl, tb1 6 rfl rfl, ⟨by decide +kernel, by decide +kernel⟩, by decide +kernel⟩
theorem im_Pf_init : Cond.instanceMethod y_Pf_init ∈ TB := tb1 78 rfl rfl
theorem ok_Pv_init : gOK y_Pv_init b_Pv_init 2 none 1 := ⟨tb1 98 rfl rfl, tb1 7 rfl rfl, ⟨by decide +kernel, by decide +kernel⟩, by decide +kernel⟩
theorem im_Pv_init : Cond.instanceMethod y_Pv_init ∈ TB := tb1 97 rfl rfl
theorem ok_Ck_init : gOK y_Ck_init b_Ck_init 3 none 1 := ⟨tb1 134 rfl rfl, tb1 8 rfl rfl, ⟨by decide +kernel, by decide +kernel⟩, by decide +kernel⟩
theorem im_Ck_init : Cond.instanceMethod y_Ck_init ∈ TB := tb1 133 rfl rfl
theorem ok_Fa_init : gOK y_Fa_init b_Fa_init 1 none 0 := ⟨tb1 141 rfl rfl, tb1 9 rfl rfl, ⟨by decide +kernel, by decide +kernel⟩, by decide +kernel⟩
theorem im_Fa_init : Cond.instanceMethod y_Fa_init ∈ TB := tb1 140 rfl rfl
theorem ok_Lg_init : gOK y_Lg_init b_Lg_init 1 none 0 := ⟨tb1 178 rfl rfl, tb1 10 rfl rfl, ⟨by decide +kernel, by decide +kernel⟩, by decide +kernel⟩
theorem im_Lg_init : Cond.instanceMethod y_Lg_init ∈ TB := tb1 177 rfl rfl
theorem ok_Fu_init : gOK y_Fu_init b_Fu_init 1 none 0 := ⟨tb1 191 rfl rfl, tb1 11 rfl rfl, ⟨by decide +kernel, by decide +kernel⟩, by decide +kernel⟩
theorem im_Fu_init : Cond.instanceMethod y_Fu_init ∈ TB := tb1 190 rfl rfl
theorem ok_Ar_fill : gOK y_Ar_fill b_Ar_fill 4 none 2 := ⟨tb1 199 rfl rfl, tb1 12 rfl rfl, ⟨by decide +kernel, by decide +kernel⟩, by decide +kernel⟩
theorem st_Ar_fill : Cond.static y_Ar_fill ∈ TB := tb1 198 rfl rfl
theorem ok_Ga_seal : gOK y_Ga_seal b_Ga_seal 10 (some FieldType.int) 8 := ⟨tb1 234 rfl rfl, tb1 1 rfl rfl, ⟨by decide +kernel, by decide +kernel⟩, by decide +kernel⟩
theorem im_Ga_seal : Cond.instanceMethod y_Ga_seal ∈ TB := tb1 232 rfl rfl
theorem se_Ga_seal : Cond.selects "ProofGate" y_Ga_seal y_Ga_seal ∈ TB := tb1 233 rfl rfl
theorem ok_Cr_init : gOK y_Cr_init b_Cr_init 7 none 5 := ⟨tb1 239 rfl rfl, tb1 14 rfl rfl, ⟨by decide +kernel, by decide +kernel⟩, by decide +kernel⟩
theorem im_Cr_init : Cond.instanceMethod y_Cr_init ∈ TB := tb1 238 rfl rfl
theorem ok_Cr_isKind : gOK y_Cr_isKind b_Cr_isKind 1 (some FieldType.boolean) 1 := ⟨tb2 3 rfl rfl, tb1 14 rfl rfl, ⟨by decide +kernel, by decide +kernel⟩, by decide +kernel⟩
theorem st_Cr_isKind : Cond.static y_Cr_isKind ∈ TB := tb2 2 rfl rfl
theorem ok_Cr_limit : gOK y_Cr_limit b_Cr_limit 2 (some FieldType.int) 2 := ⟨tb2 6 rfl rfl, tb1 14 rfl rfl, ⟨by decide +kernel, by decide +kernel⟩, by decide +kernel⟩
theorem st_Cr_limit : Cond.static y_Cr_limit ∈ TB := tb2 5 rfl rfl
theorem ok_Ga_sealOf : gOK y_Ga_sealOf b_Ga_sealOf 3 (some FieldType.int) 1 := ⟨tb2 42 rfl rfl, tb1 1 rfl rfl, ⟨by decide +kernel, by decide +kernel⟩, by decide +kernel⟩
theorem im_Ga_sealOf : Cond.instanceMethod y_Ga_sealOf ∈ TB := tb2 41 rfl rfl
theorem se_Ga_sealOf : Cond.selects "ProofGate" y_Ga_sealOf y_Ga_sealOf ∈ TB := sp1 (q := (y_Ga_sealOf, 10)) 0 rfl
theorem ok_Cr_mark : gOK y_Cr_mark b_Cr_mark 3 (some FieldType.int) 0 := ⟨tb2 46 rfl rfl, tb1 14 rfl rfl, ⟨by decide +kernel, by decide +kernel⟩, by decide +kernel⟩
theorem im_Cr_mark : Cond.instanceMethod y_Cr_mark ∈ TB := tb2 45 rfl rfl
theorem se_Cr_mark : Cond.selects "ProofGate$Credential" y_Cr_mark y_Cr_mark ∈ TB := sp1 (q := (y_Cr_mark, 6)) 1 rfl
theorem ok_Cr_mix : gOK y_Cr_mix b_Cr_mix 3 (some FieldType.int) 2 := ⟨tb2 49 rfl rfl, tb1 14 rfl rfl, ⟨by decide +kernel, by decide +kernel⟩, by decide +kernel⟩
theorem st_Cr_mix : Cond.static y_Cr_mix ∈ TB := tb2 48 rfl rfl
theorem ok_Ga_set : gOK y_Ga_set b_Ga_set 5 none 4 := ⟨tb2 55 rfl rfl, tb1 1 rfl rfl, ⟨by decide +kernel, by decide +kernel⟩, by decide +kernel⟩
theorem im_Ga_set : Cond.instanceMethod y_Ga_set ∈ TB := tb2 53 rfl rfl
theorem se_Ga_set : Cond.selects "ProofGate" y_Ga_set y_Ga_set ∈ TB := tb2 54 rfl rfl
theorem ok_Ga_pass : gOK y_Ga_pass b_Ga_pass 2 (some FieldType.int) 1 := ⟨tb2 59 rfl rfl, tb1 1 rfl rfl, ⟨by decide +kernel, by decide +kernel⟩, by decide +kernel⟩
theorem im_Ga_pass : Cond.instanceMethod y_Ga_pass ∈ TB := tb2 57 rfl rfl
theorem se_Ga_pass : Cond.selects "ProofGate" y_Ga_pass y_Ga_pass ∈ TB := tb2 58 rfl rfl
theorem ok_Cs_letTimeGoOn : gOK y_Cs_letTimeGoOn b_Cs_letTimeGoOn 2 (some FieldType.int) 1 := ⟨tb2 63 rfl rfl, tb1 2 rfl rfl, ⟨by decide +kernel, by decide +kernel⟩, by decide +kernel⟩
theorem im_Cs_letTimeGoOn : Cond.instanceMethod y_Cs_letTimeGoOn ∈ TB := tb2 62 rfl rfl
theorem se_Cs_letTimeGoOn : Cond.selects "ProofGate$Credentials" y_Cs_letTimeGoOn y_Cs_letTimeGoOn ∈ TB := sp1 (q := (y_Cs_letTimeGoOn, 2)) 2 rfl
theorem ok_Ga_step : gOK y_Ga_step b_Ga_step 4 (some FieldType.int) 3 := ⟨tb2 67 rfl rfl, tb1 1 rfl rfl, ⟨by decide +kernel, by decide +kernel⟩, by decide +kernel⟩
theorem im_Ga_step : Cond.instanceMethod y_Ga_step ∈ TB := tb2 65 rfl rfl
theorem se_Ga_step : Cond.selects "ProofGate" y_Ga_step y_Ga_step ∈ TB := tb2 66 rfl rfl
theorem ok_Pf_append : gOK y_Pf_append b_Pf_append 4 (some FieldType.int) 3 := ⟨tb2 71 rfl rfl, tb1 6 rfl rfl, ⟨by decide +kernel, by decide +kernel⟩, by decide +kernel⟩
theorem im_Pf_append : Cond.instanceMethod y_Pf_append ∈ TB := tb2 70 rfl rfl
theorem se_Pf_append : Cond.selects "ProofGate$Proof" y_Pf_append y_Pf_append ∈ TB := sp1 (q := (y_Pf_append, 4)) 3 rfl
theorem ok_Ga_clear : gOK y_Ga_clear b_Ga_clear 1 (some FieldType.int) 0 := ⟨tb2 75 rfl rfl, tb1 1 rfl rfl, ⟨by decide +kernel, by decide +kernel⟩, by decide +kernel⟩
theorem im_Ga_clear : Cond.instanceMethod y_Ga_clear ∈ TB := tb2 73 rfl rfl
theorem se_Ga_clear : Cond.selects "ProofGate" y_Ga_clear y_Ga_clear ∈ TB := tb2 74 rfl rfl
theorem ok_Pf_makeEmpty : gOK y_Pf_makeEmpty b_Pf_makeEmpty 2 (some FieldType.int) 0 := ⟨tb2 79 rfl rfl, tb1 6 rfl rfl, ⟨by decide +kernel, by decide +kernel⟩, by decide +kernel⟩
theorem im_Pf_makeEmpty : Cond.instanceMethod y_Pf_makeEmpty ∈ TB := tb2 78 rfl rfl
theorem se_Pf_makeEmpty : Cond.selects "ProofGate$Proof" y_Pf_makeEmpty y_Pf_makeEmpty ∈ TB := sp1 (q := (y_Pf_makeEmpty, 4)) 4 rfl
theorem ok_Ga_steps : gOK y_Ga_steps b_Ga_steps 1 (some FieldType.int) 0 := ⟨tb2 83 rfl rfl, tb1 1 rfl rfl, ⟨by decide +kernel, by decide +kernel⟩, by decide +kernel⟩
theorem im_Ga_steps : Cond.instanceMethod y_Ga_steps ∈ TB := tb2 81 rfl rfl
theorem se_Ga_steps : Cond.selects "ProofGate" y_Ga_steps y_Ga_steps ∈ TB := tb2 82 rfl rfl
theorem ok_Pf_length : gOK y_Pf_length b_Pf_length 1 (some FieldType.int) 0 := ⟨tb2 87 rfl rfl, tb1 6 rfl rfl, ⟨by decide +kernel, by decide +kernel⟩, by decide +kernel⟩
theorem im_Pf_length : Cond.instanceMethod y_Pf_length ∈ TB := tb2 86 rfl rfl
theorem se_Pf_length : Cond.selects "ProofGate$Proof" y_Pf_length y_Pf_length ∈ TB := sp1 (q := (y_Pf_length, 4)) 5 rfl
theorem ok_Ga_stepAt : gOK y_Ga_stepAt b_Ga_stepAt 3 (some FieldType.int) 2 := ⟨tb2 91 rfl rfl, tb1 1 rfl rfl, ⟨by decide +kernel, by decide +kernel⟩, by decide +kernel⟩
theorem im_Ga_stepAt : Cond.instanceMethod y_Ga_stepAt ∈ TB := tb2 89 rfl rfl
theorem se_Ga_stepAt : Cond.selects "ProofGate" y_Ga_stepAt y_Ga_stepAt ∈ TB := tb2 90 rfl rfl
theorem ok_Pf_hasStep : gOK y_Pf_hasStep b_Pf_hasStep 2 (some FieldType.boolean) 1 := ⟨tb2 95 rfl rfl, tb1 6 rfl rfl, ⟨by decide +kernel, by decide +kernel⟩, by decide +kernel⟩
theorem im_Pf_hasStep : Cond.instanceMethod y_Pf_hasStep ∈ TB := tb2 94 rfl rfl
theorem se_Pf_hasStep : Cond.selects "ProofGate$Proof" y_Pf_hasStep y_Pf_hasStep ∈ TB := sp1 (q := (y_Pf_hasStep, 4)) 6 rfl
theorem ok_Pf_ruleAt : gOK y_Pf_ruleAt b_Pf_ruleAt 2 (some FieldType.int) 1 := ⟨tb2 99 rfl rfl, tb1 6 rfl rfl, ⟨by decide +kernel, by decide +kernel⟩, by decide +kernel⟩
theorem im_Pf_ruleAt : Cond.instanceMethod y_Pf_ruleAt ∈ TB := tb2 98 rfl rfl
theorem se_Pf_ruleAt : Cond.selects "ProofGate$Proof" y_Pf_ruleAt y_Pf_ruleAt ∈ TB := sp1 (q := (y_Pf_ruleAt, 4)) 7 rfl
theorem ok_Pf_xAt : gOK y_Pf_xAt b_Pf_xAt 2 (some FieldType.int) 1 := ⟨tb2 103 rfl rfl, tb1 6 rfl rfl, ⟨by decide +kernel, by decide +kernel⟩, by decide +kernel⟩
theorem im_Pf_xAt : Cond.instanceMethod y_Pf_xAt ∈ TB := tb2 102 rfl rfl
theorem se_Pf_xAt : Cond.selects "ProofGate$Proof" y_Pf_xAt y_Pf_xAt ∈ TB := sp1 (q := (y_Pf_xAt, 4)) 8 rfl
theorem ok_Pf_yAt : gOK y_Pf_yAt b_Pf_yAt 2 (some FieldType.int) 1 := ⟨tb2 107 rfl rfl, tb1 6 rfl rfl, ⟨by decide +kernel, by decide +kernel⟩, by decide +kernel⟩
theorem im_Pf_yAt : Cond.instanceMethod y_Pf_yAt ∈ TB := tb2 106 rfl rfl
theorem se_Pf_yAt : Cond.selects "ProofGate$Proof" y_Pf_yAt y_Pf_yAt ∈ TB := sp1 (q := (y_Pf_yAt, 4)) 9 rfl
theorem ok_Ga_prove : gOK y_Ga_prove b_Ga_prove 5 (some FieldType.int) 3 := ⟨tb2 111 rfl rfl, tb1 1 rfl rfl, ⟨by decide +kernel, by decide +kernel⟩, by decide +kernel⟩
theorem im_Ga_prove : Cond.instanceMethod y_Ga_prove ∈ TB := tb2 109 rfl rfl
theorem se_Ga_prove : Cond.selects "ProofGate" y_Ga_prove y_Ga_prove ∈ TB := tb2 110 rfl rfl
theorem ok_Ga_isNamed : gOK y_Ga_isNamed b_Ga_isNamed 3 (some FieldType.boolean) 3 := ⟨tb2 114 rfl rfl, tb1 1 rfl rfl, ⟨by decide +kernel, by decide +kernel⟩, by decide +kernel⟩
theorem st_Ga_isNamed : Cond.static y_Ga_isNamed ∈ TB := tb2 113 rfl rfl
theorem ok_Ga_isPrincipal : gOK y_Ga_isPrincipal b_Ga_isPrincipal 1 (some FieldType.boolean) 1 := ⟨tb2 117 rfl rfl, tb1 1 rfl rfl, ⟨by decide +kernel, by decide +kernel⟩, by decide +kernel⟩
theorem st_Ga_isPrincipal : Cond.static y_Ga_isPrincipal ∈ TB := tb2 116 rfl rfl
theorem ok_Ga_isObject : gOK y_Ga_isObject b_Ga_isObject 1 (some FieldType.boolean) 1 := ⟨tb2 120 rfl rfl, tb1 1 rfl rfl, ⟨by decide +kernel, by decide +kernel⟩, by decide +kernel⟩
theorem st_Ga_isObject : Cond.static y_Ga_isObject ∈ TB := tb2 119 rfl rfl
theorem ok_Ga_isOpenTo : gOK y_Ga_isOpenTo b_Ga_isOpenTo 3 (some FieldType.boolean) 2 := ⟨tb2 124 rfl rfl, tb1 1 rfl rfl, ⟨by decide +kernel, by decide +kernel⟩, by decide +kernel⟩
theorem im_Ga_isOpenTo : Cond.instanceMethod y_Ga_isOpenTo ∈ TB := tb2 123 rfl rfl
theorem se_Ga_isOpenTo : Cond.selects "ProofGate" y_Ga_isOpenTo y_Ga_isOpenTo ∈ TB := sp1 (q := (y_Ga_isOpenTo, 10)) 10 rfl
theorem ok_Ga_sayerOfGoal : gOK y_Ga_sayerOfGoal b_Ga_sayerOfGoal 3 (some FieldType.int) 2 := ⟨tb2 128 rfl rfl, tb1 1 rfl rfl, ⟨by decide +kernel, by decide +kernel⟩, by decide +kernel⟩
theorem im_Ga_sayerOfGoal : Cond.instanceMethod y_Ga_sayerOfGoal ∈ TB := tb2 127 rfl rfl
theorem se_Ga_sayerOfGoal : Cond.selects "ProofGate" y_Ga_sayerOfGoal y_Ga_sayerOfGoal ∈ TB := sp1 (q := (y_Ga_sayerOfGoal, 10)) 11 rfl
theorem ok_Pv_writeProof : gOK y_Pv_writeProof b_Pv_writeProof 6 (some FieldType.int) 4 := ⟨tb2 132 rfl rfl, tb1 7 rfl rfl, ⟨by decide +kernel, by decide +kernel⟩, by decide +kernel⟩
theorem im_Pv_writeProof : Cond.instanceMethod y_Pv_writeProof ∈ TB := tb2 131 rfl rfl
theorem se_Pv_writeProof : Cond.selects "ProofGate$Prover" y_Pv_writeProof y_Pv_writeProof ∈ TB := sp1 (q := (y_Pv_writeProof, 9)) 12 rfl
theorem ok_Pv_may : gOK y_Pv_may b_Pv_may 3 (some FieldType.int) 3 := ⟨tb2 135 rfl rfl, tb1 7 rfl rfl, ⟨by decide +kernel, by decide +kernel⟩, by decide +kernel⟩
theorem st_Pv_may : Cond.static y_Pv_may ∈ TB := tb2 134 rfl rfl
theorem ok_Pv_finds : gOK y_Pv_finds b_Pv_finds 3 (some FieldType.boolean) 2 := ⟨tb2 139 rfl rfl, tb1 7 rfl rfl, ⟨by decide +kernel, by decide +kernel⟩, by decide +kernel⟩
theorem im_Pv_finds : Cond.instanceMethod y_Pv_finds ∈ TB := tb2 138 rfl rfl
theorem se_Pv_finds : Cond.selects "ProofGate$Prover" y_Pv_finds y_Pv_finds ∈ TB := sp1 (q := (y_Pv_finds, 9)) 13 rfl
theorem ok_Pv_findWhatIsSaid : gOK y_Pv_findWhatIsSaid b_Pv_findWhatIsSaid 5 none 1 := ⟨tb2 144 rfl rfl, tb1 7 rfl rfl, ⟨by decide +kernel, by decide +kernel⟩, by decide +kernel⟩
theorem im_Pv_findWhatIsSaid : Cond.instanceMethod y_Pv_findWhatIsSaid ∈ TB := tb2 143 rfl rfl
theorem se_Pv_findWhatIsSaid : Cond.selects "ProofGate$Prover" y_Pv_findWhatIsSaid y_Pv_findWhatIsSaid ∈ TB := sp1 (q := (y_Pv_findWhatIsSaid, 9)) 14 rfl
theorem ok_Cs_count : gOK y_Cs_count b_Cs_count 1 (some FieldType.int) 0 := ⟨tb2 148 rfl rfl, tb1 2 rfl rfl, ⟨by decide +kernel, by decide +kernel⟩, by decide +kernel⟩
theorem im_Cs_count : Cond.instanceMethod y_Cs_count ∈ TB := tb2 147 rfl rfl
theorem se_Cs_count : Cond.selects "ProofGate$Credentials" y_Cs_count y_Cs_count ∈ TB := sp1 (q := (y_Cs_count, 2)) 15 rfl
theorem ok_AL_size : gOK y_AL_size b_AL_size 1 (some FieldType.int) 0 := ⟨tb2 152 rfl rfl, tb1 5 rfl rfl, ⟨by decide +kernel, by decide +kernel⟩, by decide +kernel⟩
theorem im_AL_size : Cond.instanceMethod y_AL_size ∈ TB := tb2 150 rfl rfl
theorem se_AL_size : Cond.selects "java/util/ArrayList" y_AL_size y_AL_size ∈ TB := tb2 151 rfl rfl
theorem ok_Cs_findValid : gOK y_Cs_findValid b_Cs_findValid 3 (some (FieldType.object "ProofGate$Credential")) 1 := ⟨tb2 156 rfl rfl, tb1 2 rfl rfl, ⟨by decide +kernel, by decide +kernel⟩, by decide +kernel⟩
theorem im_Cs_findValid : Cond.instanceMethod y_Cs_findValid ∈ TB := tb2 155 rfl rfl
theorem se_Cs_findValid : Cond.selects "ProofGate$Credentials" y_Cs_findValid y_Cs_findValid ∈ TB := sp2 (q := (y_Cs_findValid, 2)) 0 rfl
theorem ok_Cs_find : gOK y_Cs_find b_Cs_find 2 (some (FieldType.object "ProofGate$Credential")) 1 := ⟨tb2 160 rfl rfl, tb1 2 rfl rfl, ⟨by decide +kernel, by decide +kernel⟩, by decide +kernel⟩
theorem im_Cs_find : Cond.instanceMethod y_Cs_find ∈ TB := tb2 159 rfl rfl
theorem se_Cs_find : Cond.selects "ProofGate$Credentials" y_Cs_find y_Cs_find ∈ TB := sp2 (q := (y_Cs_find, 2)) 1 rfl
theorem ok_AL_get : gOK y_AL_get b_AL_get 2 (some (FieldType.object "java/lang/Object")) 1 := ⟨tb2 164 rfl rfl, tb1 5 rfl rfl, ⟨by decide +kernel, by decide +kernel⟩, by decide +kernel⟩
theorem im_AL_get : Cond.instanceMethod y_AL_get ∈ TB := tb2 162 rfl rfl
theorem se_AL_get : Cond.selects "java/util/ArrayList" y_AL_get y_AL_get ∈ TB := tb2 163 rfl rfl
theorem ok_Ob_checkIndex : gOK y_Ob_checkIndex b_Ob_checkIndex 2 (some FieldType.int) 2 := ⟨tb2 167 rfl rfl, tb1 24 rfl rfl, ⟨by decide +kernel, by decide +kernel⟩, by decide +kernel⟩
theorem st_Ob_checkIndex : Cond.static y_Ob_checkIndex ∈ TB := tb2 166 rfl rfl
theorem ok_Pr_checkIndex : gOK y_Pr_checkIndex b_Pr_checkIndex 3 (some FieldType.int) 3 := ⟨tb2 170 rfl rfl, tb1 25 rfl rfl, ⟨by decide +kernel, by decide +kernel⟩, by decide +kernel⟩
theorem st_Pr_checkIndex : Cond.static y_Pr_checkIndex ∈ TB := tb2 169 rfl rfl
theorem ok_AL_elementData : gOK y_AL_elementData b_AL_elementData 2 (some (FieldType.object "java/lang/Object")) 1 := ⟨tb2 174 rfl rfl, tb1 5 rfl rfl, ⟨by decide +kernel, by decide +kernel⟩, by decide +kernel⟩
theorem im_AL_elementData : Cond.instanceMethod y_AL_elementData ∈ TB := tb2 172 rfl rfl
theorem se_AL_elementData : Cond.selects "java/util/ArrayList" y_AL_elementData y_AL_elementData ∈ TB := tb2 173 rfl rfl
theorem ok_Cr_isValidAt : gOK y_Cr_isValidAt b_Cr_isValidAt 2 (some FieldType.boolean) 1 := ⟨tb2 179 rfl rfl, tb1 14 rfl rfl, ⟨by decide +kernel, by decide +kernel⟩, by decide +kernel⟩
theorem im_Cr_isValidAt : Cond.instanceMethod y_Cr_isValidAt ∈ TB := tb2 178 rfl rfl
theorem se_Cr_isValidAt : Cond.selects "ProofGate$Credential" y_Cr_isValidAt y_Cr_isValidAt ∈ TB := sp2 (q := (y_Cr_isValidAt, 6)) 2 rfl
theorem ok_Pv_factSaidBy : gOK y_Pv_factSaidBy b_Pv_factSaidBy 3 (some FieldType.int) 2 := ⟨tb2 182 rfl rfl, tb1 7 rfl rfl, ⟨by decide +kernel, by decide +kernel⟩, by decide +kernel⟩
theorem st_Pv_factSaidBy : Cond.static y_Pv_factSaidBy ∈ TB := tb2 181 rfl rfl
theorem ok_Pv_speaks : gOK y_Pv_speaks b_Pv_speaks 2 (some FieldType.int) 2 := ⟨tb2 185 rfl rfl, tb1 7 rfl rfl, ⟨by decide +kernel, by decide +kernel⟩, by decide +kernel⟩
theorem st_Pv_speaks : Cond.static y_Pv_speaks ∈ TB := tb2 184 rfl rfl
theorem ok_Pv_trusts : gOK y_Pv_trusts b_Pv_trusts 4 (some FieldType.int) 4 := ⟨tb2 188 rfl rfl, tb1 7 rfl rfl, ⟨by decide +kernel, by decide +kernel⟩, by decide +kernel⟩
theorem st_Pv_trusts : Cond.static y_Pv_trusts ∈ TB := tb2 187 rfl rfl
theorem ok_Pv_reach : gOK y_Pv_reach b_Pv_reach 5 none 4 := ⟨tb2 192 rfl rfl, tb1 7 rfl rfl, ⟨by decide +kernel, by decide +kernel⟩, by decide +kernel⟩
theorem im_Pv_reach : Cond.instanceMethod y_Pv_reach ∈ TB := tb2 191 rfl rfl
theorem se_Pv_reach : Cond.selects "ProofGate$Prover" y_Pv_reach y_Pv_reach ∈ TB := sp2 (q := (y_Pv_reach, 9)) 3 rfl
theorem ok_Pv_findWhatFollows : gOK y_Pv_findWhatFollows b_Pv_findWhatFollows 1 none 0 := ⟨tb2 196 rfl rfl, tb1 7 rfl rfl, ⟨by decide +kernel, by decide +kernel⟩, by decide +kernel⟩
theorem im_Pv_findWhatFollows : Cond.instanceMethod y_Pv_findWhatFollows ∈ TB := tb2 195 rfl rfl
theorem se_Pv_findWhatFollows : Cond.selects "ProofGate$Prover" y_Pv_findWhatFollows y_Pv_findWhatFollows ∈ TB := sp2 (q := (y_Pv_findWhatFollows, 9)) 4 rfl
theorem ok_Pv_findMayByVoice : gOK y_Pv_findMayByVoice b_Pv_findMayByVoice 5 none 0 := ⟨tb2 200 rfl rfl, tb1 7 rfl rfl, ⟨by decide +kernel, by decide +kernel⟩, by decide +kernel⟩
theorem im_Pv_findMayByVoice : Cond.instanceMethod y_Pv_findMayByVoice ∈ TB := tb2 199 rfl rfl
theorem se_Pv_findMayByVoice : Cond.selects "ProofGate$Prover" y_Pv_findMayByVoice y_Pv_findMayByVoice ∈ TB := sp2 (q := (y_Pv_findMayByVoice, 9)) 5 rfl
theorem ok_Pv_isKnown : gOK y_Pv_isKnown b_Pv_isKnown 2 (some FieldType.boolean) 1 := ⟨tb2 204 rfl rfl, tb1 7 rfl rfl, ⟨by decide +kernel, by decide +kernel⟩, by decide +kernel⟩
theorem im_Pv_isKnown : Cond.instanceMethod y_Pv_isKnown ∈ TB := tb2 203 rfl rfl
theorem se_Pv_isKnown : Cond.selects "ProofGate$Prover" y_Pv_isKnown y_Pv_isKnown ∈ TB := sp2 (q := (y_Pv_isKnown, 9)) 6 rfl
theorem ok_Pv_handOnMay : gOK y_Pv_handOnMay b_Pv_handOnMay 8 none 5 := ⟨tb2 208 rfl rfl, tb1 7 rfl rfl, ⟨by decide +kernel, by decide +kernel⟩, by decide +kernel⟩
theorem im_Pv_handOnMay : Cond.instanceMethod y_Pv_handOnMay ∈ TB := tb2 207 rfl rfl
theorem se_Pv_handOnMay : Cond.selects "ProofGate$Prover" y_Pv_handOnMay y_Pv_handOnMay ∈ TB := sp2 (q := (y_Pv_handOnMay, 9)) 7 rfl
theorem ok_Pv_findMayByTrust : gOK y_Pv_findMayByTrust b_Pv_findMayByTrust 6 none 0 := ⟨tb2 212 rfl rfl, tb1 7 rfl rfl, ⟨by decide +kernel, by decide +kernel⟩, by decide +kernel⟩
theorem im_Pv_findMayByTrust : Cond.instanceMethod y_Pv_findMayByTrust ∈ TB := tb2 211 rfl rfl
theorem se_Pv_findMayByTrust : Cond.selects "ProofGate$Prover" y_Pv_findMayByTrust y_Pv_findMayByTrust ∈ TB := sp2 (q := (y_Pv_findMayByTrust, 9)) 8 rfl
theorem ok_Pv_findTrustByTrust : gOK y_Pv_findTrustByTrust b_Pv_findTrustByTrust 6 none 0 := ⟨tb2 216 rfl rfl, tb1 7 rfl rfl, ⟨by decide +kernel, by decide +kernel⟩, by decide +kernel⟩
theorem im_Pv_findTrustByTrust : Cond.instanceMethod y_Pv_findTrustByTrust ∈ TB := tb2 215 rfl rfl
theorem se_Pv_findTrustByTrust : Cond.selects "ProofGate$Prover" y_Pv_findTrustByTrust y_Pv_findTrustByTrust ∈ TB := sp2 (q := (y_Pv_findTrustByTrust, 9)) 9 rfl
theorem ok_Pv_handOnTrust : gOK y_Pv_handOnTrust b_Pv_handOnTrust 10 none 6 := ⟨tb2 220 rfl rfl, tb1 7 rfl rfl, ⟨by decide +kernel, by decide +kernel⟩, by decide +kernel⟩
theorem im_Pv_handOnTrust : Cond.instanceMethod y_Pv_handOnTrust ∈ TB := tb2 219 rfl rfl
theorem se_Pv_handOnTrust : Cond.selects "ProofGate$Prover" y_Pv_handOnTrust y_Pv_handOnTrust ∈ TB := sp2 (q := (y_Pv_handOnTrust, 9)) 10 rfl
theorem ok_Ma_min : gOK y_Ma_min b_Ma_min 2 (some FieldType.int) 2 := ⟨tb2 223 rfl rfl, tb1 22 rfl rfl, ⟨by decide +kernel, by decide +kernel⟩, by decide +kernel⟩
theorem st_Ma_min : Cond.static y_Ma_min ∈ TB := tb2 222 rfl rfl
theorem ok_Pv_findTrustByVoice : gOK y_Pv_findTrustByVoice b_Pv_findTrustByVoice 5 none 0 := ⟨tb2 227 rfl rfl, tb1 7 rfl rfl, ⟨by decide +kernel, by decide +kernel⟩, by decide +kernel⟩
theorem im_Pv_findTrustByVoice : Cond.instanceMethod y_Pv_findTrustByVoice ∈ TB := tb2 226 rfl rfl
theorem se_Pv_findTrustByVoice : Cond.selects "ProofGate$Prover" y_Pv_findTrustByVoice y_Pv_findTrustByVoice ∈ TB := sp2 (q := (y_Pv_findTrustByVoice, 9)) 11 rfl
theorem ok_Pv_findVoiceByVoice : gOK y_Pv_findVoiceByVoice b_Pv_findVoiceByVoice 3 none 0 := ⟨tb2 231 rfl rfl, tb1 7 rfl rfl, ⟨by decide +kernel, by decide +kernel⟩, by decide +kernel⟩
theorem im_Pv_findVoiceByVoice : Cond.instanceMethod y_Pv_findVoiceByVoice ∈ TB := tb2 230 rfl rfl
theorem se_Pv_findVoiceByVoice : Cond.selects "ProofGate$Prover" y_Pv_findVoiceByVoice y_Pv_findVoiceByVoice ∈ TB := sp2 (q := (y_Pv_findVoiceByVoice, 9)) 12 rfl
theorem ok_Pv_handOnVoice : gOK y_Pv_handOnVoice b_Pv_handOnVoice 5 none 2 := ⟨tb2 235 rfl rfl, tb1 7 rfl rfl, ⟨by decide +kernel, by decide +kernel⟩, by decide +kernel⟩
theorem im_Pv_handOnVoice : Cond.instanceMethod y_Pv_handOnVoice ∈ TB := tb2 234 rfl rfl
theorem se_Pv_handOnVoice : Cond.selects "ProofGate$Prover" y_Pv_handOnVoice y_Pv_handOnVoice ∈ TB := sp2 (q := (y_Pv_handOnVoice, 9)) 13 rfl
theorem ok_Pv_findImplied : gOK y_Pv_findImplied b_Pv_findImplied 3 none 0 := ⟨tb2 239 rfl rfl, tb1 7 rfl rfl, ⟨by decide +kernel, by decide +kernel⟩, by decide +kernel⟩
theorem im_Pv_findImplied : Cond.instanceMethod y_Pv_findImplied ∈ TB := tb2 238 rfl rfl
theorem se_Pv_findImplied : Cond.selects "ProofGate$Prover" y_Pv_findImplied y_Pv_findImplied ∈ TB := sp2 (q := (y_Pv_findImplied, 9)) 14 rfl
theorem ok_Pv_applyImply : gOK y_Pv_applyImply b_Pv_applyImply 7 none 4 := ⟨tb3 3 rfl rfl, tb1 7 rfl rfl, ⟨by decide +kernel, by decide +kernel⟩, by decide +kernel⟩
theorem im_Pv_applyImply : Cond.instanceMethod y_Pv_applyImply ∈ TB := tb3 2 rfl rfl
theorem se_Pv_applyImply : Cond.selects "ProofGate$Prover" y_Pv_applyImply y_Pv_applyImply ∈ TB := sp2 (q := (y_Pv_applyImply, 9)) 15 rfl
theorem ok_Pv_writesStep : gOK y_Pv_writesStep b_Pv_writesStep 6 (some FieldType.boolean) 2 := ⟨tb3 8 rfl rfl, tb1 7 rfl rfl, ⟨by decide +kernel, by decide +kernel⟩, by decide +kernel⟩
theorem im_Pv_writesStep : Cond.instanceMethod y_Pv_writesStep ∈ TB := tb3 7 rfl rfl
theorem se_Pv_writesStep : Cond.selects "ProofGate$Prover" y_Pv_writesStep y_Pv_writesStep ∈ TB := sp3 (q := (y_Pv_writesStep, 9)) 0 rfl
theorem ok_Pv_written : gOK y_Pv_written b_Pv_written 1 (some (FieldType.object "ProofGate$Proof")) 0 := ⟨tb3 14 rfl rfl, tb1 7 rfl rfl, ⟨by decide +kernel, by decide +kernel⟩, by decide +kernel⟩
theorem im_Pv_written : Cond.instanceMethod y_Pv_written ∈ TB := tb3 13 rfl rfl
theorem se_Pv_written : Cond.selects "ProofGate$Prover" y_Pv_written y_Pv_written ∈ TB := sp3 (q := (y_Pv_written, 9)) 1 rfl
theorem ok_Pf_become : gOK y_Pf_become b_Pf_become 2 none 1 := ⟨tb3 18 rfl rfl, tb1 6 rfl rfl, ⟨by decide +kernel, by decide +kernel⟩, by decide +kernel⟩
theorem im_Pf_become : Cond.instanceMethod y_Pf_become ∈ TB := tb3 17 rfl rfl
theorem se_Pf_become : Cond.selects "ProofGate$Proof" y_Pf_become y_Pf_become ∈ TB := sp3 (q := (y_Pf_become, 4)) 2 rfl
theorem ok_Ga_check : gOK y_Ga_check b_Ga_check 4 (some FieldType.boolean) 3 := ⟨tb3 25 rfl rfl, tb1 1 rfl rfl, ⟨by decide +kernel, by decide +kernel⟩, by decide +kernel⟩
theorem im_Ga_check : Cond.instanceMethod y_Ga_check ∈ TB := tb3 23 rfl rfl
theorem se_Ga_check : Cond.selects "ProofGate" y_Ga_check y_Ga_check ∈ TB := tb3 24 rfl rfl
theorem ok_Ck_accepts : gOK y_Ck_accepts b_Ck_accepts 8 (some FieldType.boolean) 5 := ⟨tb3 29 rfl rfl, tb1 8 rfl rfl, ⟨by decide +kernel, by decide +kernel⟩, by decide +kernel⟩
theorem im_Ck_accepts : Cond.instanceMethod y_Ck_accepts ∈ TB := tb3 28 rfl rfl
theorem se_Ck_accepts : Cond.selects "ProofGate$Checker" y_Ck_accepts y_Ck_accepts ∈ TB := sp3 (q := (y_Ck_accepts, 2)) 3 rfl
theorem ok_Ck_follows : gOK y_Ck_follows b_Ck_follows 5 (some FieldType.boolean) 4 := ⟨tb3 37 rfl rfl, tb1 8 rfl rfl, ⟨by decide +kernel, by decide +kernel⟩, by decide +kernel⟩
theorem im_Ck_follows : Cond.instanceMethod y_Ck_follows ∈ TB := tb3 36 rfl rfl
theorem se_Ck_follows : Cond.selects "ProofGate$Checker" y_Ck_follows y_Ck_follows ∈ TB := sp3 (q := (y_Ck_follows, 2)) 4 rfl
theorem ok_Ck_isSaid : gOK y_Ck_isSaid b_Ck_isSaid 2 (some FieldType.boolean) 2 := ⟨tb3 41 rfl rfl, tb1 8 rfl rfl, ⟨by decide +kernel, by decide +kernel⟩, by decide +kernel⟩
theorem st_Ck_isSaid : Cond.static y_Ck_isSaid ∈ TB := tb3 40 rfl rfl
theorem ok_Fa_becomeSaidBy : gOK y_Fa_becomeSaidBy b_Fa_becomeSaidBy 2 none 1 := ⟨tb3 45 rfl rfl, tb1 9 rfl rfl, ⟨by decide +kernel, by decide +kernel⟩, by decide +kernel⟩
theorem im_Fa_becomeSaidBy : Cond.instanceMethod y_Fa_becomeSaidBy ∈ TB := tb3 44 rfl rfl
theorem se_Fa_becomeSaidBy : Cond.selects "ProofGate$Fact" y_Fa_becomeSaidBy y_Fa_becomeSaidBy ∈ TB := sp3 (q := (y_Fa_becomeSaidBy, 6)) 5 rfl
theorem ok_Ck_isImplied : gOK y_Ck_isImplied b_Ck_isImplied 3 (some FieldType.boolean) 3 := ⟨tb3 48 rfl rfl, tb1 8 rfl rfl, ⟨by decide +kernel, by decide +kernel⟩, by decide +kernel⟩
theorem st_Ck_isImplied : Cond.static y_Ck_isImplied ∈ TB := tb3 47 rfl rfl
theorem ok_Fa_become : gOK y_Fa_become b_Fa_become 2 none 1 := ⟨tb3 52 rfl rfl, tb1 9 rfl rfl, ⟨by decide +kernel, by decide +kernel⟩, by decide +kernel⟩
theorem im_Fa_become : Cond.instanceMethod y_Fa_become ∈ TB := tb3 51 rfl rfl
theorem se_Fa_become : Cond.selects "ProofGate$Fact" y_Fa_become y_Fa_become ∈ TB := sp3 (q := (y_Fa_become, 6)) 6 rfl
theorem ok_Ck_isJoined : gOK y_Ck_isJoined b_Ck_isJoined 4 (some FieldType.boolean) 4 := ⟨tb3 55 rfl rfl, tb1 8 rfl rfl, ⟨by decide +kernel, by decide +kernel⟩, by decide +kernel⟩
theorem st_Ck_isJoined : Cond.static y_Ck_isJoined ∈ TB := tb3 54 rfl rfl
theorem ok_Ck_isHandedOn : gOK y_Ck_isHandedOn b_Ck_isHandedOn 3 (some FieldType.boolean) 3 := ⟨tb3 58 rfl rfl, tb1 8 rfl rfl, ⟨by decide +kernel, by decide +kernel⟩, by decide +kernel⟩
theorem st_Ck_isHandedOn : Cond.static y_Ck_isHandedOn ∈ TB := tb3 57 rfl rfl
theorem ok_Fa_isOfSameThing : gOK y_Fa_isOfSameThing b_Fa_isOfSameThing 2 (some FieldType.boolean) 1 := ⟨tb3 62 rfl rfl, tb1 9 rfl rfl, ⟨by decide +kernel, by decide +kernel⟩, by decide +kernel⟩
theorem im_Fa_isOfSameThing : Cond.instanceMethod y_Fa_isOfSameThing ∈ TB := tb3 61 rfl rfl
theorem se_Fa_isOfSameThing : Cond.selects "ProofGate$Fact" y_Fa_isOfSameThing y_Fa_isOfSameThing ∈ TB := sp3 (q := (y_Fa_isOfSameThing, 6)) 7 rfl
theorem ok_Ck_isTrustedDeeper : gOK y_Ck_isTrustedDeeper b_Ck_isTrustedDeeper 3 (some FieldType.boolean) 3 := ⟨tb3 65 rfl rfl, tb1 8 rfl rfl, ⟨by decide +kernel, by decide +kernel⟩, by decide +kernel⟩
theorem st_Ck_isTrustedDeeper : Cond.static y_Ck_isTrustedDeeper ∈ TB := tb3 64 rfl rfl
theorem ok_Fa_isMay : gOK y_Fa_isMay b_Fa_isMay 5 (some FieldType.boolean) 4 := ⟨tb3 70 rfl rfl, tb1 9 rfl rfl, ⟨by decide +kernel, by decide +kernel⟩, by decide +kernel⟩
theorem im_Fa_isMay : Cond.instanceMethod y_Fa_isMay ∈ TB := tb3 69 rfl rfl
theorem se_Fa_isMay : Cond.selects "ProofGate$Fact" y_Fa_isMay y_Fa_isMay ∈ TB := sp3 (q := (y_Fa_isMay, 6)) 8 rfl
theorem ok_Ga_fuse : gOK y_Ga_fuse b_Ga_fuse 2 (some FieldType.boolean) 1 := ⟨tb3 74 rfl rfl, tb1 1 rfl rfl, ⟨by decide +kernel, by decide +kernel⟩, by decide +kernel⟩
theorem im_Ga_fuse : Cond.instanceMethod y_Ga_fuse ∈ TB := tb3 72 rfl rfl
theorem se_Ga_fuse : Cond.selects "ProofGate" y_Ga_fuse y_Ga_fuse ∈ TB := tb3 73 rfl rfl
theorem ok_Fu_light : gOK y_Fu_light b_Fu_light 2 none 1 := ⟨tb3 78 rfl rfl, tb1 11 rfl rfl, ⟨by decide +kernel, by decide +kernel⟩, by decide +kernel⟩
theorem im_Fu_light : Cond.instanceMethod y_Fu_light ∈ TB := tb3 77 rfl rfl
theorem se_Fu_light : Cond.selects "ProofGate$Fuse" y_Fu_light y_Fu_light ∈ TB := sp3 (q := (y_Fu_light, 1)) 9 rfl
theorem ok_Ga_owner : gOK y_Ga_owner b_Ga_owner 2 (some FieldType.int) 1 := ⟨tb3 82 rfl rfl, tb1 1 rfl rfl, ⟨by decide +kernel, by decide +kernel⟩, by decide +kernel⟩
theorem im_Ga_owner : Cond.instanceMethod y_Ga_owner ∈ TB := tb3 80 rfl rfl
theorem se_Ga_owner : Cond.selects "ProofGate" y_Ga_owner y_Ga_owner ∈ TB := tb3 81 rfl rfl
theorem ok_Ga_credentials : gOK y_Ga_credentials b_Ga_credentials 1 (some FieldType.int) 0 := ⟨tb3 86 rfl rfl, tb1 1 rfl rfl, ⟨by decide +kernel, by decide +kernel⟩, by decide +kernel⟩
theorem im_Ga_credentials : Cond.instanceMethod y_Ga_credentials ∈ TB := tb3 84 rfl rfl
theorem se_Ga_credentials : Cond.selects "ProofGate" y_Ga_credentials y_Ga_credentials ∈ TB := tb3 85 rfl rfl
theorem ok_Ga_valid : gOK y_Ga_valid b_Ga_valid 2 (some FieldType.boolean) 1 := ⟨tb3 91 rfl rfl, tb1 1 rfl rfl, ⟨by decide +kernel, by decide +kernel⟩, by decide +kernel⟩
theorem im_Ga_valid : Cond.instanceMethod y_Ga_valid ∈ TB := tb3 89 rfl rfl
theorem se_Ga_valid : Cond.selects "ProofGate" y_Ga_valid y_Ga_valid ∈ TB := tb3 90 rfl rfl
theorem ok_Ga_grants : gOK y_Ga_grants b_Ga_grants 1 (some FieldType.int) 0 := ⟨tb3 96 rfl rfl, tb1 1 rfl rfl, ⟨by decide +kernel, by decide +kernel⟩, by decide +kernel⟩
theorem im_Ga_grants : Cond.instanceMethod y_Ga_grants ∈ TB := tb3 94 rfl rfl
theorem se_Ga_grants : Cond.selects "ProofGate" y_Ga_grants y_Ga_grants ∈ TB := tb3 95 rfl rfl
theorem ok_Lg_count : gOK y_Lg_count b_Lg_count 1 (some FieldType.int) 0 := ⟨tb3 100 rfl rfl, tb1 10 rfl rfl, ⟨by decide +kernel, by decide +kernel⟩, by decide +kernel⟩
theorem im_Lg_count : Cond.instanceMethod y_Lg_count ∈ TB := tb3 99 rfl rfl
theorem se_Lg_count : Cond.selects "ProofGate$AuditLog" y_Lg_count y_Lg_count ∈ TB := sp3 (q := (y_Lg_count, 2)) 10 rfl
theorem ok_Ga_chain : gOK y_Ga_chain b_Ga_chain 1 (some FieldType.int) 0 := ⟨tb3 104 rfl rfl, tb1 1 rfl rfl, ⟨by decide +kernel, by decide +kernel⟩, by decide +kernel⟩
theorem im_Ga_chain : Cond.instanceMethod y_Ga_chain ∈ TB := tb3 102 rfl rfl
theorem se_Ga_chain : Cond.selects "ProofGate" y_Ga_chain y_Ga_chain ∈ TB := tb3 103 rfl rfl
theorem ok_Lg_link : gOK y_Lg_link b_Lg_link 1 (some FieldType.int) 0 := ⟨tb3 108 rfl rfl, tb1 10 rfl rfl, ⟨by decide +kernel, by decide +kernel⟩, by decide +kernel⟩
theorem im_Lg_link : Cond.instanceMethod y_Lg_link ∈ TB := tb3 107 rfl rfl
theorem se_Lg_link : Cond.selects "ProofGate$AuditLog" y_Lg_link y_Lg_link ∈ TB := sp3 (q := (y_Lg_link, 2)) 11 rfl
theorem ok_Lw_cell : gOK y_Lw_cell b_Lw_cell 2 (some FieldType.int) 2 := ⟨tb3 111 rfl rfl, tb1 0 rfl rfl, ⟨by decide +kernel, by decide +kernel⟩, by decide +kernel⟩
theorem st_Lw_cell : Cond.static y_Lw_cell ∈ TB := tb3 110 rfl rfl
theorem ok_Ga_submit : gOK y_Ga_submit b_Ga_submit 7 (some FieldType.int) 5 := ⟨tb3 121 rfl rfl, tb1 1 rfl rfl, ⟨by decide +kernel, by decide +kernel⟩, by decide +kernel⟩
theorem im_Ga_submit : Cond.instanceMethod y_Ga_submit ∈ TB := tb3 119 rfl rfl
theorem se_Ga_submit : Cond.selects "ProofGate" y_Ga_submit y_Ga_submit ∈ TB := tb3 120 rfl rfl
theorem ok_Cr_isWellFormed : gOK y_Cr_isWellFormed b_Cr_isWellFormed 3 (some FieldType.boolean) 0 := ⟨tb3 125 rfl rfl, tb1 14 rfl rfl, ⟨by decide +kernel, by decide +kernel⟩, by decide +kernel⟩
theorem im_Cr_isWellFormed : Cond.instanceMethod y_Cr_isWellFormed ∈ TB := tb3 124 rfl rfl
theorem se_Cr_isWellFormed : Cond.selects "ProofGate$Credential" y_Cr_isWellFormed y_Cr_isWellFormed ∈ TB := sp3 (q := (y_Cr_isWellFormed, 6)) 12 rfl
theorem ok_Ga_writeRecord : gOK y_Ga_writeRecord b_Ga_writeRecord 1 none 0 := ⟨tb3 231 rfl rfl, tb1 1 rfl rfl, ⟨by decide +kernel, by decide +kernel⟩, by decide +kernel⟩
theorem im_Ga_writeRecord : Cond.instanceMethod y_Ga_writeRecord ∈ TB := tb3 230 rfl rfl
theorem se_Ga_writeRecord : Cond.selects "ProofGate" y_Ga_writeRecord y_Ga_writeRecord ∈ TB := sp3 (q := (y_Ga_writeRecord, 10)) 14 rfl
theorem ok_Fu_burnsThrough : gOK y_Fu_burnsThrough b_Fu_burnsThrough 1 (some FieldType.boolean) 0 := ⟨tb3 235 rfl rfl, tb1 11 rfl rfl, ⟨by decide +kernel, by decide +kernel⟩, by decide +kernel⟩
theorem im_Fu_burnsThrough : Cond.instanceMethod y_Fu_burnsThrough ∈ TB := tb3 234 rfl rfl
theorem se_Fu_burnsThrough : Cond.selects "ProofGate$Fuse" y_Fu_burnsThrough y_Fu_burnsThrough ∈ TB := sp3 (q := (y_Fu_burnsThrough, 1)) 15 rfl
theorem ok_Cs_take : gOK y_Cs_take b_Cs_take 2 (some FieldType.int) 1 := ⟨tb4 0 rfl rfl, tb1 2 rfl rfl, ⟨by decide +kernel, by decide +kernel⟩, by decide +kernel⟩
theorem im_Cs_take : Cond.instanceMethod y_Cs_take ∈ TB := tb3 239 rfl rfl
theorem se_Cs_take : Cond.selects "ProofGate$Credentials" y_Cs_take y_Cs_take ∈ TB := sp4 (q := (y_Cs_take, 2)) 0 rfl
theorem ok_AL_add : gOK y_AL_add b_AL_add 2 (some FieldType.boolean) 1 := ⟨tb4 4 rfl rfl, tb1 5 rfl rfl, ⟨by decide +kernel, by decide +kernel⟩, by decide +kernel⟩
theorem im_AL_add : Cond.instanceMethod y_AL_add ∈ TB := tb4 2 rfl rfl
theorem se_AL_add : Cond.selects "java/util/ArrayList" y_AL_add y_AL_add ∈ TB := tb4 3 rfl rfl
theorem ok_AL_add2 : gOK y_AL_add2 b_AL_add2 4 none 3 := ⟨tb4 8 rfl rfl, tb1 5 rfl rfl, ⟨by decide +kernel, by decide +kernel⟩, by decide +kernel⟩
theorem im_AL_add2 : Cond.instanceMethod y_AL_add2 ∈ TB := tb4 7 rfl rfl
theorem se_AL_add2 : Cond.selects "java/util/ArrayList" y_AL_add2 y_AL_add2 ∈ TB := sp4 (q := (y_AL_add2, 3)) 1 rfl
theorem ok_AL_grow : gOK y_AL_grow b_AL_grow 1 (some (FieldType.array (FieldType.object "java/lang/Object"))) 0 := ⟨tb4 12 rfl rfl, tb1 5 rfl rfl, ⟨by decide +kernel, by decide +kernel⟩, by decide +kernel⟩
theorem im_AL_grow : Cond.instanceMethod y_AL_grow ∈ TB := tb4 11 rfl rfl
theorem se_AL_grow : Cond.selects "java/util/ArrayList" y_AL_grow y_AL_grow ∈ TB := sp4 (q := (y_AL_grow, 3)) 2 rfl
theorem ok_AL_grow2 : gOK y_AL_grow2 b_AL_grow2 4 (some (FieldType.array (FieldType.object "java/lang/Object"))) 1 := ⟨tb4 16 rfl rfl, tb1 5 rfl rfl, ⟨by decide +kernel, by decide +kernel⟩, by decide +kernel⟩
theorem im_AL_grow2 : Cond.instanceMethod y_AL_grow2 ∈ TB := tb4 15 rfl rfl
theorem se_AL_grow2 : Cond.selects "java/util/ArrayList" y_AL_grow2 y_AL_grow2 ∈ TB := sp4 (q := (y_AL_grow2, 3)) 3 rfl
theorem ok_As_newLength : gOK y_As_newLength b_As_newLength 4 (some FieldType.int) 3 := ⟨tb4 19 rfl rfl, tb1 21 rfl rfl, ⟨by decide +kernel, by decide +kernel⟩, by decide +kernel⟩
theorem st_As_newLength : Cond.static y_As_newLength ∈ TB := tb4 18 rfl rfl
theorem ok_Ma_max : gOK y_Ma_max b_Ma_max 2 (some FieldType.int) 2 := ⟨tb4 22 rfl rfl, tb1 22 rfl rfl, ⟨by decide +kernel, by decide +kernel⟩, by decide +kernel⟩
theorem st_Ma_max : Cond.static y_Ma_max ∈ TB := tb4 21 rfl rfl
theorem ok_As_hugeLength : gOK y_As_hugeLength b_As_hugeLength 3 (some FieldType.int) 2 := ⟨tb4 26 rfl rfl, tb1 21 rfl rfl, ⟨by decide +kernel, by decide +kernel⟩, by decide +kernel⟩
theorem st_As_hugeLength : Cond.static y_As_hugeLength ∈ TB := tb4 25 rfl rfl
theorem ok_Ar_copyOf : gOK y_Ar_copyOf b_Ar_copyOf 2 (some (FieldType.array (FieldType.object "java/lang/Object"))) 2 := ⟨tb4 29 rfl rfl, tb1 12 rfl rfl, ⟨by decide +kernel, by decide +kernel⟩, by decide +kernel⟩
theorem st_Ar_copyOf : Cond.static y_Ar_copyOf ∈ TB := tb4 28 rfl rfl
theorem ok_Ar_copyOf2 : gOK y_Ar_copyOf2 b_Ar_copyOf2 4 (some (FieldType.array (FieldType.object "java/lang/Object"))) 3 := ⟨tb4 51 rfl rfl, tb1 12 rfl rfl, ⟨by decide +kernel, by decide +kernel⟩, by decide +kernel⟩
theorem st_Ar_copyOf2 : Cond.static y_Ar_copyOf2 ∈ TB := tb4 50 rfl rfl
theorem ok_Ga_revoke : gOK y_Ga_revoke b_Ga_revoke 4 (some FieldType.boolean) 2 := ⟨tb4 66 rfl rfl, tb1 1 rfl rfl, ⟨by decide +kernel, by decide +kernel⟩, by decide +kernel⟩
theorem im_Ga_revoke : Cond.instanceMethod y_Ga_revoke ∈ TB := tb4 64 rfl rfl
theorem se_Ga_revoke : Cond.selects "ProofGate" y_Ga_revoke y_Ga_revoke ∈ TB := tb4 65 rfl rfl
theorem ok_Ga_request : gOK y_Ga_request b_Ga_request 7 (some FieldType.int) 5 := ⟨tb4 91 rfl rfl, tb1 1 rfl rfl, ⟨by decide +kernel, by decide +kernel⟩, by decide +kernel⟩
theorem im_Ga_request : Cond.instanceMethod y_Ga_request ∈ TB := tb4 89 rfl rfl
theorem se_Ga_request : Cond.selects "ProofGate" y_Ga_request y_Ga_request ∈ TB := tb4 90 rfl rfl
theorem ok_Ga_useUpDraft : gOK y_Ga_useUpDraft b_Ga_useUpDraft 6 (some FieldType.int) 3 := ⟨tb4 97 rfl rfl, tb1 1 rfl rfl, ⟨by decide +kernel, by decide +kernel⟩, by decide +kernel⟩
theorem im_Ga_useUpDraft : Cond.instanceMethod y_Ga_useUpDraft ∈ TB := tb4 96 rfl rfl
theorem se_Ga_useUpDraft : Cond.selects "ProofGate" y_Ga_useUpDraft y_Ga_useUpDraft ∈ TB := sp4 (q := (y_Ga_useUpDraft, 10)) 4 rfl
theorem ok_Lg_addGrant : gOK y_Lg_addGrant b_Lg_addGrant 5 none 4 := ⟨tb4 102 rfl rfl, tb1 10 rfl rfl, ⟨by decide +kernel, by decide +kernel⟩, by decide +kernel⟩
theorem im_Lg_addGrant : Cond.instanceMethod y_Lg_addGrant ∈ TB := tb4 101 rfl rfl
theorem se_Lg_addGrant : Cond.selects "ProofGate$AuditLog" y_Lg_addGrant y_Lg_addGrant ∈ TB := sp4 (q := (y_Lg_addGrant, 2)) 5 rfl
theorem ok_Ga_carryOut : gOK y_Ga_carryOut b_Ga_carryOut 7 (some FieldType.int) 4 := ⟨tb4 106 rfl rfl, tb1 1 rfl rfl, ⟨by decide +kernel, by decide +kernel⟩, by decide +kernel⟩
theorem im_Ga_carryOut : Cond.instanceMethod y_Ga_carryOut ∈ TB := tb4 105 rfl rfl
theorem se_Ga_carryOut : Cond.selects "ProofGate" y_Ga_carryOut y_Ga_carryOut ∈ TB := sp4 (q := (y_Ga_carryOut, 10)) 6 rfl
theorem ok_Mo_init : gOK y_Mo_init b_Mo_init 2 none 1 := ⟨tb4 111 rfl rfl, tb1 13 rfl rfl, ⟨by decide +kernel, by decide +kernel⟩, by decide +kernel⟩
theorem im_Mo_init : Cond.instanceMethod y_Mo_init ∈ TB := tb4 110 rfl rfl
theorem ok_Mo_thrown : gOK y_Mo_thrown b_Mo_thrown 1 (some FieldType.int) 0 := ⟨tb4 232 rfl rfl, tb1 13 rfl rfl, ⟨by decide +kernel, by decide +kernel⟩, by decide +kernel⟩
theorem im_Mo_thrown : Cond.instanceMethod y_Mo_thrown ∈ TB := tb4 230 rfl rfl
theorem se_Mo_thrown : Cond.selects "ProofGateModel" y_Mo_thrown y_Mo_thrown ∈ TB := tb4 231 rfl rfl
theorem ok_Mo_fuse : gOK y_Mo_fuse b_Mo_fuse 2 (some FieldType.boolean) 1 := ⟨tb4 236 rfl rfl, tb1 13 rfl rfl, ⟨by decide +kernel, by decide +kernel⟩, by decide +kernel⟩
theorem im_Mo_fuse : Cond.instanceMethod y_Mo_fuse ∈ TB := tb4 234 rfl rfl
theorem se_Mo_fuse : Cond.selects "ProofGateModel" y_Mo_fuse y_Mo_fuse ∈ TB := tb4 235 rfl rfl
theorem ok_Mo_in : gOK y_Mo_in b_Mo_in 3 (some FieldType.boolean) 3 := ⟨tb4 239 rfl rfl, tb1 13 rfl rfl, ⟨by decide +kernel, by decide +kernel⟩, by decide +kernel⟩
theorem st_Mo_in : Cond.static y_Mo_in ∈ TB := tb4 238 rfl rfl
theorem ok_Mo_seal : gOK y_Mo_seal b_Mo_seal 10 (some FieldType.int) 8 := ⟨tb5 3 rfl rfl, tb1 13 rfl rfl, ⟨by decide +kernel, by decide +kernel⟩, by decide +kernel⟩
theorem im_Mo_seal : Cond.instanceMethod y_Mo_seal ∈ TB := tb5 1 rfl rfl
theorem se_Mo_seal : Cond.selects "ProofGateModel" y_Mo_seal y_Mo_seal ∈ TB := tb5 2 rfl rfl
theorem ok_Mo_mix : gOK y_Mo_mix b_Mo_mix 3 (some FieldType.int) 2 := ⟨tb5 6 rfl rfl, tb1 13 rfl rfl, ⟨by decide +kernel, by decide +kernel⟩, by decide +kernel⟩
theorem st_Mo_mix : Cond.static y_Mo_mix ∈ TB := tb5 5 rfl rfl
theorem ok_Mo_set : gOK y_Mo_set b_Mo_set 5 none 4 := ⟨tb5 12 rfl rfl, tb1 13 rfl rfl, ⟨by decide +kernel, by decide +kernel⟩, by decide +kernel⟩
theorem im_Mo_set : Cond.instanceMethod y_Mo_set ∈ TB := tb5 10 rfl rfl
theorem se_Mo_set : Cond.selects "ProofGateModel" y_Mo_set y_Mo_set ∈ TB := tb5 11 rfl rfl
theorem ok_Mo_submit : gOK y_Mo_submit b_Mo_submit 7 (some FieldType.int) 5 := ⟨tb5 16 rfl rfl, tb1 13 rfl rfl, ⟨by decide +kernel, by decide +kernel⟩, by decide +kernel⟩
theorem im_Mo_submit : Cond.instanceMethod y_Mo_submit ∈ TB := tb5 14 rfl rfl
theorem se_Mo_submit : Cond.selects "ProofGateModel" y_Mo_submit y_Mo_submit ∈ TB := tb5 15 rfl rfl
theorem ok_Mo_isPerson : gOK y_Mo_isPerson b_Mo_isPerson 1 (some FieldType.boolean) 1 := ⟨tb5 19 rfl rfl, tb1 13 rfl rfl, ⟨by decide +kernel, by decide +kernel⟩, by decide +kernel⟩
theorem st_Mo_isPerson : Cond.static y_Mo_isPerson ∈ TB := tb5 18 rfl rfl
theorem ok_Mo_isFit : gOK y_Mo_isFit b_Mo_isFit 2 (some FieldType.boolean) 1 := ⟨tb5 23 rfl rfl, tb1 13 rfl rfl, ⟨by decide +kernel, by decide +kernel⟩, by decide +kernel⟩
theorem im_Mo_isFit : Cond.instanceMethod y_Mo_isFit ∈ TB := tb5 22 rfl rfl
theorem se_Mo_isFit : Cond.selects "ProofGateModel" y_Mo_isFit y_Mo_isFit ∈ TB := sp4 (q := (y_Mo_isFit, 38)) 7 rfl
theorem ok_Mo_isRight : gOK y_Mo_isRight b_Mo_isRight 1 (some FieldType.boolean) 1 := ⟨tb5 26 rfl rfl, tb1 13 rfl rfl, ⟨by decide +kernel, by decide +kernel⟩, by decide +kernel⟩
theorem st_Mo_isRight : Cond.static y_Mo_isRight ∈ TB := tb5 25 rfl rfl
theorem ok_Mo_fails : gOK y_Mo_fails b_Mo_fails 2 (some FieldType.int) 1 := ⟨tb5 30 rfl rfl, tb1 13 rfl rfl, ⟨by decide +kernel, by decide +kernel⟩, by decide +kernel⟩
theorem im_Mo_fails : Cond.instanceMethod y_Mo_fails ∈ TB := tb5 29 rfl rfl
theorem se_Mo_fails : Cond.selects "ProofGateModel" y_Mo_fails y_Mo_fails ∈ TB := sp4 (q := (y_Mo_fails, 38)) 8 rfl
theorem ok_Mo_recorded : gOK y_Mo_recorded b_Mo_recorded 1 (some FieldType.boolean) 0 := ⟨tb5 35 rfl rfl, tb1 13 rfl rfl, ⟨by decide +kernel, by decide +kernel⟩, by decide +kernel⟩
theorem im_Mo_recorded : Cond.instanceMethod y_Mo_recorded ∈ TB := tb5 34 rfl rfl
theorem se_Mo_recorded : Cond.selects "ProofGateModel" y_Mo_recorded y_Mo_recorded ∈ TB := sp4 (q := (y_Mo_recorded, 38)) 9 rfl
theorem ok_Mo_revoke : gOK y_Mo_revoke b_Mo_revoke 3 (some FieldType.boolean) 2 := ⟨tb5 39 rfl rfl, tb1 13 rfl rfl, ⟨by decide +kernel, by decide +kernel⟩, by decide +kernel⟩
theorem im_Mo_revoke : Cond.instanceMethod y_Mo_revoke ∈ TB := tb5 37 rfl rfl
theorem se_Mo_revoke : Cond.selects "ProofGateModel" y_Mo_revoke y_Mo_revoke ∈ TB := tb5 38 rfl rfl
theorem ok_Mo_step : gOK y_Mo_step b_Mo_step 4 (some FieldType.int) 3 := ⟨tb5 43 rfl rfl, tb1 13 rfl rfl, ⟨by decide +kernel, by decide +kernel⟩, by decide +kernel⟩
theorem im_Mo_step : Cond.instanceMethod y_Mo_step ∈ TB := tb5 41 rfl rfl
theorem se_Mo_step : Cond.selects "ProofGateModel" y_Mo_step y_Mo_step ∈ TB := tb5 42 rfl rfl
theorem ok_Mo_clear : gOK y_Mo_clear b_Mo_clear 2 (some FieldType.int) 0 := ⟨tb5 47 rfl rfl, tb1 13 rfl rfl, ⟨by decide +kernel, by decide +kernel⟩, by decide +kernel⟩
theorem im_Mo_clear : Cond.instanceMethod y_Mo_clear ∈ TB := tb5 45 rfl rfl
theorem se_Mo_clear : Cond.selects "ProofGateModel" y_Mo_clear y_Mo_clear ∈ TB := tb5 46 rfl rfl
theorem ok_Mo_steps : gOK y_Mo_steps b_Mo_steps 1 (some FieldType.int) 0 := ⟨tb5 51 rfl rfl, tb1 13 rfl rfl, ⟨by decide +kernel, by decide +kernel⟩, by decide +kernel⟩
theorem im_Mo_steps : Cond.instanceMethod y_Mo_steps ∈ TB := tb5 49 rfl rfl
theorem se_Mo_steps : Cond.selects "ProofGateModel" y_Mo_steps y_Mo_steps ∈ TB := tb5 50 rfl rfl
theorem ok_Mo_stepAt : gOK y_Mo_stepAt b_Mo_stepAt 3 (some FieldType.int) 2 := ⟨tb5 55 rfl rfl, tb1 13 rfl rfl, ⟨by decide +kernel, by decide +kernel⟩, by decide +kernel⟩
theorem im_Mo_stepAt : Cond.instanceMethod y_Mo_stepAt ∈ TB := tb5 53 rfl rfl
theorem se_Mo_stepAt : Cond.selects "ProofGateModel" y_Mo_stepAt y_Mo_stepAt ∈ TB := tb5 54 rfl rfl
theorem ok_Mo_prove : gOK y_Mo_prove b_Mo_prove 6 (some FieldType.int) 3 := ⟨tb5 59 rfl rfl, tb1 13 rfl rfl, ⟨by decide +kernel, by decide +kernel⟩, by decide +kernel⟩
theorem im_Mo_prove : Cond.instanceMethod y_Mo_prove ∈ TB := tb5 57 rfl rfl
theorem se_Mo_prove : Cond.selects "ProofGateModel" y_Mo_prove y_Mo_prove ∈ TB := tb5 58 rfl rfl
theorem ok_Mo_isGoal : gOK y_Mo_isGoal b_Mo_isGoal 4 (some FieldType.boolean) 3 := ⟨tb5 63 rfl rfl, tb1 13 rfl rfl, ⟨by decide +kernel, by decide +kernel⟩, by decide +kernel⟩
theorem im_Mo_isGoal : Cond.instanceMethod y_Mo_isGoal ∈ TB := tb5 62 rfl rfl
theorem se_Mo_isGoal : Cond.selects "ProofGateModel" y_Mo_isGoal y_Mo_isGoal ∈ TB := sp4 (q := (y_Mo_isGoal, 38)) 10 rfl
theorem ok_Mo_sayer : gOK y_Mo_sayer b_Mo_sayer 3 (some FieldType.int) 2 := ⟨tb5 67 rfl rfl, tb1 13 rfl rfl, ⟨by decide +kernel, by decide +kernel⟩, by decide +kernel⟩
theorem im_Mo_sayer : Cond.instanceMethod y_Mo_sayer ∈ TB := tb5 66 rfl rfl
theorem se_Mo_sayer : Cond.selects "ProofGateModel" y_Mo_sayer y_Mo_sayer ∈ TB := sp4 (q := (y_Mo_sayer, 38)) 11 rfl
theorem ok_Mo_may : gOK y_Mo_may b_Mo_may 3 (some FieldType.int) 3 := ⟨tb5 70 rfl rfl, tb1 13 rfl rfl, ⟨by decide +kernel, by decide +kernel⟩, by decide +kernel⟩
theorem st_Mo_may : Cond.static y_Mo_may ∈ TB := tb5 69 rfl rfl
theorem ok_Mo_proof : gOK y_Mo_proof b_Mo_proof 7 (some FieldType.int) 2 := ⟨tb5 74 rfl rfl, tb1 13 rfl rfl, ⟨by decide +kernel, by decide +kernel⟩, by decide +kernel⟩
theorem im_Mo_proof : Cond.instanceMethod y_Mo_proof ∈ TB := tb5 73 rfl rfl
theorem se_Mo_proof : Cond.selects "ProofGateModel" y_Mo_proof y_Mo_proof ∈ TB := sp4 (q := (y_Mo_proof, 38)) 12 rfl
theorem ok_Mo_said : gOK y_Mo_said b_Mo_said 3 none 0 := ⟨tb5 78 rfl rfl, tb1 13 rfl rfl, ⟨by decide +kernel, by decide +kernel⟩, by decide +kernel⟩
theorem im_Mo_said : Cond.instanceMethod y_Mo_said ∈ TB := tb5 77 rfl rfl
theorem se_Mo_said : Cond.selects "ProofGateModel" y_Mo_said y_Mo_said ∈ TB := sp4 (q := (y_Mo_said, 38)) 13 rfl
theorem ok_Mo_holds : gOK y_Mo_holds b_Mo_holds 2 (some FieldType.boolean) 1 := ⟨tb5 82 rfl rfl, tb1 13 rfl rfl, ⟨by decide +kernel, by decide +kernel⟩, by decide +kernel⟩
theorem im_Mo_holds : Cond.instanceMethod y_Mo_holds ∈ TB := tb5 81 rfl rfl
theorem se_Mo_holds : Cond.selects "ProofGateModel" y_Mo_holds y_Mo_holds ∈ TB := sp4 (q := (y_Mo_holds, 38)) 14 rfl
theorem ok_Mo_speaks : gOK y_Mo_speaks b_Mo_speaks 2 (some FieldType.int) 2 := ⟨tb5 85 rfl rfl, tb1 13 rfl rfl, ⟨by decide +kernel, by decide +kernel⟩, by decide +kernel⟩
theorem st_Mo_speaks : Cond.static y_Mo_speaks ∈ TB := tb5 84 rfl rfl
theorem ok_Mo_trusts : gOK y_Mo_trusts b_Mo_trusts 4 (some FieldType.int) 4 := ⟨tb5 88 rfl rfl, tb1 13 rfl rfl, ⟨by decide +kernel, by decide +kernel⟩, by decide +kernel⟩
theorem st_Mo_trusts : Cond.static y_Mo_trusts ∈ TB := tb5 87 rfl rfl
theorem ok_Mo_finds : gOK y_Mo_finds b_Mo_finds 5 (some FieldType.boolean) 4 := ⟨tb5 92 rfl rfl, tb1 13 rfl rfl, ⟨by decide +kernel, by decide +kernel⟩, by decide +kernel⟩
theorem im_Mo_finds : Cond.instanceMethod y_Mo_finds ∈ TB := tb5 91 rfl rfl
theorem se_Mo_finds : Cond.selects "ProofGateModel" y_Mo_finds y_Mo_finds ∈ TB := sp4 (q := (y_Mo_finds, 38)) 15 rfl
theorem ok_Mo_goesOn : gOK y_Mo_goesOn b_Mo_goesOn 8 (some FieldType.boolean) 0 := ⟨tb5 96 rfl rfl, tb1 13 rfl rfl, ⟨by decide +kernel, by decide +kernel⟩, by decide +kernel⟩
theorem im_Mo_goesOn : Cond.instanceMethod y_Mo_goesOn ∈ TB := tb5 95 rfl rfl
theorem se_Mo_goesOn : Cond.selects "ProofGateModel" y_Mo_goesOn y_Mo_goesOn ∈ TB := sp5 (q := (y_Mo_goesOn, 38)) 0 rfl
theorem ok_Mo_newMay : gOK y_Mo_newMay b_Mo_newMay 7 (some FieldType.boolean) 3 := ⟨tb5 100 rfl rfl, tb1 13 rfl rfl, ⟨by decide +kernel, by decide +kernel⟩, by decide +kernel⟩
theorem im_Mo_newMay : Cond.instanceMethod y_Mo_newMay ∈ TB := tb5 99 rfl rfl
theorem se_Mo_newMay : Cond.selects "ProofGateModel" y_Mo_newMay y_Mo_newMay ∈ TB := sp5 (q := (y_Mo_newMay, 38)) 1 rfl
theorem ok_Mo_had : gOK y_Mo_had b_Mo_had 2 (some FieldType.boolean) 1 := ⟨tb5 104 rfl rfl, tb1 13 rfl rfl, ⟨by decide +kernel, by decide +kernel⟩, by decide +kernel⟩
theorem im_Mo_had : Cond.instanceMethod y_Mo_had ∈ TB := tb5 103 rfl rfl
theorem se_Mo_had : Cond.selects "ProofGateModel" y_Mo_had y_Mo_had ∈ TB := sp5 (q := (y_Mo_had, 38)) 2 rfl
theorem ok_Mo_newTrust : gOK y_Mo_newTrust b_Mo_newTrust 10 (some FieldType.boolean) 4 := ⟨tb5 108 rfl rfl, tb1 13 rfl rfl, ⟨by decide +kernel, by decide +kernel⟩, by decide +kernel⟩
theorem im_Mo_newTrust : Cond.instanceMethod y_Mo_newTrust ∈ TB := tb5 107 rfl rfl
theorem se_Mo_newTrust : Cond.selects "ProofGateModel" y_Mo_newTrust y_Mo_newTrust ∈ TB := sp5 (q := (y_Mo_newTrust, 38)) 3 rfl
theorem ok_Mo_newVoice : gOK y_Mo_newVoice b_Mo_newVoice 5 (some FieldType.boolean) 2 := ⟨tb5 112 rfl rfl, tb1 13 rfl rfl, ⟨by decide +kernel, by decide +kernel⟩, by decide +kernel⟩
theorem im_Mo_newVoice : Cond.instanceMethod y_Mo_newVoice ∈ TB := tb5 111 rfl rfl
theorem se_Mo_newVoice : Cond.selects "ProofGateModel" y_Mo_newVoice y_Mo_newVoice ∈ TB := sp5 (q := (y_Mo_newVoice, 38)) 4 rfl
theorem ok_Mo_needed : gOK y_Mo_needed b_Mo_needed 2 (some FieldType.int) 1 := ⟨tb5 116 rfl rfl, tb1 13 rfl rfl, ⟨by decide +kernel, by decide +kernel⟩, by decide +kernel⟩
theorem im_Mo_needed : Cond.instanceMethod y_Mo_needed ∈ TB := tb5 115 rfl rfl
theorem se_Mo_needed : Cond.selects "ProofGateModel" y_Mo_needed y_Mo_needed ∈ TB := sp5 (q := (y_Mo_needed, 38)) 5 rfl
theorem ok_Mo_note : gOK y_Mo_note b_Mo_note 2 none 1 := ⟨tb5 120 rfl rfl, tb1 13 rfl rfl, ⟨by decide +kernel, by decide +kernel⟩, by decide +kernel⟩
theorem im_Mo_note : Cond.instanceMethod y_Mo_note ∈ TB := tb5 119 rfl rfl
theorem se_Mo_note : Cond.selects "ProofGateModel" y_Mo_note y_Mo_note ∈ TB := sp5 (q := (y_Mo_note, 38)) 6 rfl
theorem ok_Mo_check : gOK y_Mo_check b_Mo_check 4 (some FieldType.boolean) 3 := ⟨tb5 124 rfl rfl, tb1 13 rfl rfl, ⟨by decide +kernel, by decide +kernel⟩, by decide +kernel⟩
theorem im_Mo_check : Cond.instanceMethod y_Mo_check ∈ TB := tb5 122 rfl rfl
theorem se_Mo_check : Cond.selects "ProofGateModel" y_Mo_check y_Mo_check ∈ TB := tb5 123 rfl rfl
theorem ok_Mo_proves : gOK y_Mo_proves b_Mo_proves 7 (some FieldType.boolean) 4 := ⟨tb5 128 rfl rfl, tb1 13 rfl rfl, ⟨by decide +kernel, by decide +kernel⟩, by decide +kernel⟩
theorem im_Mo_proves : Cond.instanceMethod y_Mo_proves ∈ TB := tb5 127 rfl rfl
theorem se_Mo_proves : Cond.selects "ProofGateModel" y_Mo_proves y_Mo_proves ∈ TB := sp5 (q := (y_Mo_proves, 38)) 7 rfl
theorem ok_Mo_proved : gOK y_Mo_proved b_Mo_proved 12 (some FieldType.int) 1 := ⟨tb5 132 rfl rfl, tb1 13 rfl rfl, ⟨by decide +kernel, by decide +kernel⟩, by decide +kernel⟩
theorem im_Mo_proved : Cond.instanceMethod y_Mo_proved ∈ TB := tb5 131 rfl rfl
theorem se_Mo_proved : Cond.selects "ProofGateModel" y_Mo_proved y_Mo_proved ∈ TB := sp5 (q := (y_Mo_proved, 38)) 8 rfl
theorem ok_Mo_spoken : gOK y_Mo_spoken b_Mo_spoken 2 (some FieldType.int) 1 := ⟨tb5 136 rfl rfl, tb1 13 rfl rfl, ⟨by decide +kernel, by decide +kernel⟩, by decide +kernel⟩
theorem im_Mo_spoken : Cond.instanceMethod y_Mo_spoken ∈ TB := tb5 135 rfl rfl
theorem se_Mo_spoken : Cond.selects "ProofGateModel" y_Mo_spoken y_Mo_spoken ∈ TB := sp5 (q := (y_Mo_spoken, 38)) 9 rfl
theorem ok_Mo_fact : gOK y_Mo_fact b_Mo_fact 6 (some FieldType.int) 6 := ⟨tb5 139 rfl rfl, tb1 13 rfl rfl, ⟨by decide +kernel, by decide +kernel⟩, by decide +kernel⟩
theorem st_Mo_fact : Cond.static y_Mo_fact ∈ TB := tb5 138 rfl rfl
theorem ok_Mo_stepFact : gOK y_Mo_stepFact b_Mo_stepFact 3 (some FieldType.int) 2 := ⟨tb5 143 rfl rfl, tb1 13 rfl rfl, ⟨by decide +kernel, by decide +kernel⟩, by decide +kernel⟩
theorem im_Mo_stepFact : Cond.instanceMethod y_Mo_stepFact ∈ TB := tb5 142 rfl rfl
theorem se_Mo_stepFact : Cond.selects "ProofGateModel" y_Mo_stepFact y_Mo_stepFact ∈ TB := sp5 (q := (y_Mo_stepFact, 38)) 10 rfl
theorem ok_Mo_item : gOK y_Mo_item b_Mo_item 2 (some FieldType.int) 2 := ⟨tb5 146 rfl rfl, tb1 13 rfl rfl, ⟨by decide +kernel, by decide +kernel⟩, by decide +kernel⟩
theorem st_Mo_item : Cond.static y_Mo_item ∈ TB := tb5 145 rfl rfl
theorem ok_Mo_request : gOK y_Mo_request b_Mo_request 8 (some FieldType.int) 5 := ⟨tb5 150 rfl rfl, tb1 13 rfl rfl, ⟨by decide +kernel, by decide +kernel⟩, by decide +kernel⟩
theorem im_Mo_request : Cond.instanceMethod y_Mo_request ∈ TB := tb5 148 rfl rfl
theorem se_Mo_request : Cond.selects "ProofGateModel" y_Mo_request y_Mo_request ∈ TB := tb5 149 rfl rfl
theorem ok_Mo_done : gOK y_Mo_done b_Mo_done 6 (some FieldType.int) 4 := ⟨tb5 154 rfl rfl, tb1 13 rfl rfl, ⟨by decide +kernel, by decide +kernel⟩, by decide +kernel⟩
theorem im_Mo_done : Cond.instanceMethod y_Mo_done ∈ TB := tb5 153 rfl rfl
theorem se_Mo_done : Cond.selects "ProofGateModel" y_Mo_done y_Mo_done ∈ TB := sp5 (q := (y_Mo_done, 38)) 11 rfl
theorem ok_Mo_pass : gOK y_Mo_pass b_Mo_pass 2 (some FieldType.int) 1 := ⟨tb5 158 rfl rfl, tb1 13 rfl rfl, ⟨by decide +kernel, by decide +kernel⟩, by decide +kernel⟩
theorem im_Mo_pass : Cond.instanceMethod y_Mo_pass ∈ TB := tb5 156 rfl rfl
theorem se_Mo_pass : Cond.selects "ProofGateModel" y_Mo_pass y_Mo_pass ∈ TB := tb5 157 rfl rfl
theorem ok_Mo_owner : gOK y_Mo_owner b_Mo_owner 2 (some FieldType.int) 1 := ⟨tb5 162 rfl rfl, tb1 13 rfl rfl, ⟨by decide +kernel, by decide +kernel⟩, by decide +kernel⟩
theorem im_Mo_owner : Cond.instanceMethod y_Mo_owner ∈ TB := tb5 160 rfl rfl
theorem se_Mo_owner : Cond.selects "ProofGateModel" y_Mo_owner y_Mo_owner ∈ TB := tb5 161 rfl rfl
theorem ok_Mo_credentials : gOK y_Mo_credentials b_Mo_credentials 1 (some FieldType.int) 0 := ⟨tb5 166 rfl rfl, tb1 13 rfl rfl, ⟨by decide +kernel, by decide +kernel⟩, by decide +kernel⟩
theorem im_Mo_credentials : Cond.instanceMethod y_Mo_credentials ∈ TB := tb5 164 rfl rfl
theorem se_Mo_credentials : Cond.selects "ProofGateModel" y_Mo_credentials y_Mo_credentials ∈ TB := tb5 165 rfl rfl
theorem ok_Mo_valid : gOK y_Mo_valid b_Mo_valid 2 (some FieldType.boolean) 1 := ⟨tb5 170 rfl rfl, tb1 13 rfl rfl, ⟨by decide +kernel, by decide +kernel⟩, by decide +kernel⟩
theorem im_Mo_valid : Cond.instanceMethod y_Mo_valid ∈ TB := tb5 168 rfl rfl
theorem se_Mo_valid : Cond.selects "ProofGateModel" y_Mo_valid y_Mo_valid ∈ TB := tb5 169 rfl rfl
theorem ok_Mo_grants : gOK y_Mo_grants b_Mo_grants 1 (some FieldType.int) 0 := ⟨tb5 174 rfl rfl, tb1 13 rfl rfl, ⟨by decide +kernel, by decide +kernel⟩, by decide +kernel⟩
theorem im_Mo_grants : Cond.instanceMethod y_Mo_grants ∈ TB := tb5 172 rfl rfl
theorem se_Mo_grants : Cond.selects "ProofGateModel" y_Mo_grants y_Mo_grants ∈ TB := tb5 173 rfl rfl
theorem ok_Mo_chain : gOK y_Mo_chain b_Mo_chain 1 (some FieldType.int) 0 := ⟨tb5 178 rfl rfl, tb1 13 rfl rfl, ⟨by decide +kernel, by decide +kernel⟩, by decide +kernel⟩
theorem im_Mo_chain : Cond.instanceMethod y_Mo_chain ∈ TB := tb5 176 rfl rfl
theorem se_Mo_chain : Cond.selects "ProofGateModel" y_Mo_chain y_Mo_chain ∈ TB := tb5 177 rfl rfl
theorem ii_Lw : Cond.initialized "ProofGateLaw" ∈ TB := tb1 0 rfl rfl
theorem ii_Ga : Cond.initialized "ProofGate" ∈ TB := tb1 1 rfl rfl
theorem ii_Cs : Cond.initialized "ProofGate$Credentials" ∈ TB := tb1 2 rfl rfl
theorem ii_Ac : Cond.initialized "java/util/AbstractCollection" ∈ TB := tb1 3 rfl rfl
theorem ii_Ab : Cond.initialized "java/util/AbstractList" ∈ TB := tb1 4 rfl rfl
theorem ii_AL : Cond.initialized "java/util/ArrayList" ∈ TB := tb1 5 rfl rfl
theorem ii_Pf : Cond.initialized "ProofGate$Proof" ∈ TB := tb1 6 rfl rfl
theorem ii_Pv : Cond.initialized "ProofGate$Prover" ∈ TB := tb1 7 rfl rfl
theorem ii_Ck : Cond.initialized "ProofGate$Checker" ∈ TB := tb1 8 rfl rfl
theorem ii_Fa : Cond.initialized "ProofGate$Fact" ∈ TB := tb1 9 rfl rfl
theorem ii_Lg : Cond.initialized "ProofGate$AuditLog" ∈ TB := tb1 10 rfl rfl
theorem ii_Fu : Cond.initialized "ProofGate$Fuse" ∈ TB := tb1 11 rfl rfl
theorem ii_Ar : Cond.initialized "java/util/Arrays" ∈ TB := tb1 12 rfl rfl
theorem ii_Mo : Cond.initialized "ProofGateModel" ∈ TB := tb1 13 rfl rfl
theorem ii_Cr : Cond.initialized "ProofGate$Credential" ∈ TB := tb1 14 rfl rfl
theorem ii_As : Cond.initialized "jdk/internal/util/ArraysSupport" ∈ TB := tb1 21 rfl rfl
theorem ii_Ma : Cond.initialized "java/lang/Math" ∈ TB := tb1 22 rfl rfl
theorem ii_Sy : Cond.initialized "java/lang/System" ∈ TB := tb1 23 rfl rfl
theorem ii_Ob : Cond.initialized "java/util/Objects" ∈ TB := tb1 24 rfl rfl
theorem ii_Pr : Cond.initialized "jdk/internal/util/Preconditions" ∈ TB := tb1 25 rfl rfl
theorem cl_Lw_8 : Cond.classLink "ProofGateLaw" 8 "ProofGate" ∈ TB := tb1 27 rfl rfl
theorem in_Ga : Cond.instantiable "ProofGate" 10 ∈ TB := tb1 28 rfl rfl
theorem ml_Lw_35 : gMl "ProofGateLaw" 35 y_Ga_init := Or.inl (tb1 29 rfl rfl)
theorem ml_Ga_1 : gMl "ProofGate" 1 y_Jo_init := Or.inl (tb1 32 rfl rfl)
theorem mo_Ga_1 : Cond.methodLink "ProofGate" 1 Lib.objectInit ∈ TB := tb1 32 rfl rfl
theorem oi_im : Cond.instanceMethod Lib.objectInit ∈ TB := tb1 33 rfl rfl
theorem oi_co : Cond.code Lib.objectInit ⟨#[0xb1]⟩ 1 none ∈ TB := tb1 34 rfl rfl
theorem cl_Ga_15 : Cond.classLink "ProofGate" 15 "ProofGate$Credentials" ∈ TB := tb1 35 rfl rfl
theorem in_Cs : Cond.instantiable "ProofGate$Credentials" 2 ∈ TB := tb1 36 rfl rfl
theorem ml_Ga_17 : gMl "ProofGate" 17 y_Cs_init := Or.inr ⟨"ProofGate", nb1 37 rfl rfl⟩
theorem ml_Cs_1 : gMl "ProofGate$Credentials" 1 y_Jo_init := Or.inl (tb1 40 rfl rfl)
theorem mo_Cs_1 : Cond.methodLink "ProofGate$Credentials" 1 Lib.objectInit ∈ TB := tb1 40 rfl rfl
theorem cl_Cs_7 : Cond.classLink "ProofGate$Credentials" 7 "java/util/ArrayList" ∈ TB := tb1 41 rfl rfl
theorem in_AL : Cond.instantiable "java/util/ArrayList" 3 ∈ TB := tb1 42 rfl rfl
theorem ml_Cs_9 : gMl "ProofGate$Credentials" 9 y_AL_init := Or.inl (tb1 43 rfl rfl)
theorem ml_AL_1 : gMl "java/util/ArrayList" 1 y_Ab_init := Or.inl (tb1 46 rfl rfl)
theorem ml_Ab_1 : gMl "java/util/AbstractList" 1 y_Ac_init := Or.inl (tb1 49 rfl rfl)
theorem ml_Ac_1 : gMl "java/util/AbstractCollection" 1 y_Jo_init := Or.inl (tb1 52 rfl rfl)
theorem mo_Ac_1 : Cond.methodLink "java/util/AbstractCollection" 1 Lib.objectInit ∈ TB := tb1 52 rfl rfl
theorem ff_AL_39 : Cond.fieldLink "java/util/ArrayList" 39 "java/util/ArrayList" "DEFAULTCAPACITY_EMPTY_ELEMENTDATA" "[Ljava/lang/Object;" ∈ TB := tb1 53 rfl rfl
theorem fl_AL_39 : gFl "java/util/ArrayList" 39 "java/util/ArrayList" "DEFAULTCAPACITY_EMPTY_ELEMENTDATA" "[Ljava/lang/Object;" := Or.inl ff_AL_39
theorem ff_AL_9 : Cond.fieldLink "java/util/ArrayList" 9 "java/util/ArrayList" "elementData" "[Ljava/lang/Object;" ∈ TB := tb1 55 rfl rfl
theorem fl_AL_9 : gFl "java/util/ArrayList" 9 "java/util/ArrayList" "elementData" "[Ljava/lang/Object;" := Or.inl ff_AL_9
theorem ff_AL_48 : Cond.fieldLink "java/util/ArrayList" 48 "java/util/ArrayList" "size" "I" ∈ TB := tb1 56 rfl rfl
theorem fl_AL_48 : gFl "java/util/ArrayList" 48 "java/util/ArrayList" "size" "I" := Or.inl ff_AL_48
theorem ff_Ab_7 : Cond.fieldLink "java/util/AbstractList" 7 "java/util/AbstractList" "modCount" "I" ∈ TB := tb1 57 rfl rfl
theorem fl_Ab_7 : gFl "java/util/AbstractList" 7 "java/util/AbstractList" "modCount" "I" := Or.inl ff_Ab_7
theorem ff_AL_63 : Cond.fieldLink "java/util/ArrayList" 63 "java/util/ArrayList" "modCount" "I" ∈ TB := tb1 58 rfl rfl
theorem fl_AL_63 : gFl "java/util/ArrayList" 63 "java/util/ArrayList" "modCount" "I" := Or.inl ff_AL_63
theorem ac_int : Cond.arrayClass .int ∈ TB := tb1 67 rfl rfl
theorem ff_Cs_10 : Cond.fieldLink "ProofGate$Credentials" 10 "ProofGate$Credentials" "taken" "Ljava/util/ArrayList;" ∈ TB := tb1 68 rfl rfl
theorem fl_Cs_10 : gFl "ProofGate$Credentials" 10 "ProofGate$Credentials" "taken" "Ljava/util/ArrayList;" := Or.inl ff_Cs_10
theorem ff_Cs_24 : Cond.fieldLink "ProofGate$Credentials" 24 "ProofGate$Credentials" "time" "I" ∈ TB := tb1 69 rfl rfl
theorem fl_Cs_24 : gFl "ProofGate$Credentials" 24 "ProofGate$Credentials" "time" "I" := Or.inl ff_Cs_24
theorem cl_Ga_22 : Cond.classLink "ProofGate" 22 "ProofGate$Proof" ∈ TB := tb1 75 rfl rfl
theorem in_Pf : Cond.instantiable "ProofGate$Proof" 4 ∈ TB := tb1 76 rfl rfl
theorem ml_Ga_24 : gMl "ProofGate" 24 y_Pf_init := Or.inr ⟨"ProofGate", nb1 77 rfl rfl⟩
theorem ml_Pf_3 : gMl "ProofGate$Proof" 3 y_Jo_init := Or.inl (tb1 80 rfl rfl)
theorem mo_Pf_3 : Cond.methodLink "ProofGate$Proof" 3 Lib.objectInit ∈ TB := tb1 80 rfl rfl
theorem ff_Pf_9 : Cond.fieldLink "ProofGate$Proof" 9 "ProofGate$Proof" "rules" "[I" ∈ TB := tb1 81 rfl rfl
theorem fl_Pf_9 : gFl "ProofGate$Proof" 9 "ProofGate$Proof" "rules" "[I" := Or.inl ff_Pf_9
theorem ff_Pf_15 : Cond.fieldLink "ProofGate$Proof" 15 "ProofGate$Proof" "xs" "[I" ∈ TB := tb1 82 rfl rfl
theorem fl_Pf_15 : gFl "ProofGate$Proof" 15 "ProofGate$Proof" "xs" "[I" := Or.inl ff_Pf_15
theorem ff_Pf_18 : Cond.fieldLink "ProofGate$Proof" 18 "ProofGate$Proof" "ys" "[I" ∈ TB := tb1 83 rfl rfl
theorem fl_Pf_18 : gFl "ProofGate$Proof" 18 "ProofGate$Proof" "ys" "[I" := Or.inl ff_Pf_18
theorem ff_Pf_21 : Cond.fieldLink "ProofGate$Proof" 21 "ProofGate$Proof" "length" "I" ∈ TB := tb1 84 rfl rfl
theorem fl_Pf_21 : gFl "ProofGate$Proof" 21 "ProofGate$Proof" "length" "I" := Or.inl ff_Pf_21
theorem cl_Ga_29 : Cond.classLink "ProofGate" 29 "ProofGate$Prover" ∈ TB := tb1 94 rfl rfl
theorem in_Pv : Cond.instantiable "ProofGate$Prover" 9 ∈ TB := tb1 95 rfl rfl
theorem ml_Ga_31 : gMl "ProofGate" 31 y_Pv_init := Or.inr ⟨"ProofGate", nb1 96 rfl rfl⟩
theorem ml_Pv_5 : gMl "ProofGate$Prover" 5 y_Jo_init := Or.inl (tb1 99 rfl rfl)
theorem mo_Pv_5 : Cond.methodLink "ProofGate$Prover" 5 Lib.objectInit ∈ TB := tb1 99 rfl rfl
theorem cl_Pv_11 : Cond.classLink "ProofGate$Prover" 11 "ProofGate$Proof" ∈ TB := tb1 100 rfl rfl
theorem ml_Pv_13 : gMl "ProofGate$Prover" 13 y_Pf_init := Or.inr ⟨"ProofGate", nb1 101 rfl rfl⟩
theorem ff_Pv_34 : Cond.fieldLink "ProofGate$Prover" 34 "ProofGate$Prover" "held" "LProofGate$Credentials;" ∈ TB := tb1 102 rfl rfl
theorem fl_Pv_34 : gFl "ProofGate$Prover" 34 "ProofGate$Prover" "held" "LProofGate$Credentials;" := Or.inl ff_Pv_34
theorem ff_Pv_14 : Cond.fieldLink "ProofGate$Prover" 14 "ProofGate$Prover" "written" "LProofGate$Proof;" ∈ TB := tb1 103 rfl rfl
theorem fl_Pv_14 : gFl "ProofGate$Prover" 14 "ProofGate$Prover" "written" "LProofGate$Proof;" := Or.inl ff_Pv_14
theorem ff_Pv_18 : Cond.fieldLink "ProofGate$Prover" 18 "ProofGate$Prover" "roundOf" "[I" ∈ TB := tb1 104 rfl rfl
theorem fl_Pv_18 : gFl "ProofGate$Prover" 18 "ProofGate$Prover" "roundOf" "[I" := Or.inl ff_Pv_18
theorem ff_Pv_22 : Cond.fieldLink "ProofGate$Prover" 22 "ProofGate$Prover" "ruleOf" "[I" ∈ TB := tb1 105 rfl rfl
theorem fl_Pv_22 : gFl "ProofGate$Prover" 22 "ProofGate$Prover" "ruleOf" "[I" := Or.inl ff_Pv_22
theorem ff_Pv_25 : Cond.fieldLink "ProofGate$Prover" 25 "ProofGate$Prover" "firstOf" "[I" ∈ TB := tb1 106 rfl rfl
theorem fl_Pv_25 : gFl "ProofGate$Prover" 25 "ProofGate$Prover" "firstOf" "[I" := Or.inl ff_Pv_25
theorem ff_Pv_28 : Cond.fieldLink "ProofGate$Prover" 28 "ProofGate$Prover" "secondOf" "[I" ∈ TB := tb1 107 rfl rfl
theorem fl_Pv_28 : gFl "ProofGate$Prover" 28 "ProofGate$Prover" "secondOf" "[I" := Or.inl ff_Pv_28
theorem ff_Pv_31 : Cond.fieldLink "ProofGate$Prover" 31 "ProofGate$Prover" "stepOf" "[I" ∈ TB := tb1 108 rfl rfl
theorem fl_Pv_31 : gFl "ProofGate$Prover" 31 "ProofGate$Prover" "stepOf" "[I" := Or.inl ff_Pv_31
theorem ff_Pv_62 : Cond.fieldLink "ProofGate$Prover" 62 "ProofGate$Prover" "round" "I" ∈ TB := tb1 109 rfl rfl
theorem fl_Pv_62 : gFl "ProofGate$Prover" 62 "ProofGate$Prover" "round" "I" := Or.inl ff_Pv_62
theorem ff_Pv_66 : Cond.fieldLink "ProofGate$Prover" 66 "ProofGate$Prover" "foundSome" "Z" ∈ TB := tb1 110 rfl rfl
theorem fl_Pv_66 : gFl "ProofGate$Prover" 66 "ProofGate$Prover" "foundSome" "Z" := Or.inl ff_Pv_66
theorem cl_Ga_38 : Cond.classLink "ProofGate" 38 "ProofGate$Checker" ∈ TB := tb1 130 rfl rfl
theorem in_Ck : Cond.instantiable "ProofGate$Checker" 2 ∈ TB := tb1 131 rfl rfl
theorem ml_Ga_40 : gMl "ProofGate" 40 y_Ck_init := Or.inr ⟨"ProofGate", nb1 132 rfl rfl⟩
theorem ml_Ck_3 : gMl "ProofGate$Checker" 3 y_Jo_init := Or.inl (tb1 135 rfl rfl)
theorem mo_Ck_3 : Cond.methodLink "ProofGate$Checker" 3 Lib.objectInit ∈ TB := tb1 135 rfl rfl
theorem cl_Ck_9 : Cond.classLink "ProofGate$Checker" 9 "ProofGate$Fact" ∈ TB := tb1 136 rfl rfl
theorem in_Fa : Cond.instantiable "ProofGate$Fact" 6 ∈ TB := tb1 138 rfl rfl
theorem ml_Ck_21 : gMl "ProofGate$Checker" 21 y_Fa_init := Or.inr ⟨"ProofGate", nb1 139 rfl rfl⟩
theorem ml_Fa_3 : gMl "ProofGate$Fact" 3 y_Jo_init := Or.inl (tb1 142 rfl rfl)
theorem mo_Fa_3 : Cond.methodLink "ProofGate$Fact" 3 Lib.objectInit ∈ TB := tb1 142 rfl rfl
theorem ff_Fa_15 : Cond.fieldLink "ProofGate$Fact" 15 "ProofGate$Fact" "kind" "I" ∈ TB := tb1 143 rfl rfl
theorem fl_Fa_15 : gFl "ProofGate$Fact" 15 "ProofGate$Fact" "kind" "I" := Or.inl ff_Fa_15
theorem fl_Ck_73 : gFl "ProofGate$Checker" 73 "ProofGate$Fact" "kind" "I" := Or.inr ⟨"ProofGate", nb1 144 rfl rfl⟩
theorem ff_Fa_21 : Cond.fieldLink "ProofGate$Fact" 21 "ProofGate$Fact" "of" "I" ∈ TB := tb1 145 rfl rfl
theorem fl_Fa_21 : gFl "ProofGate$Fact" 21 "ProofGate$Fact" "of" "I" := Or.inl ff_Fa_21
theorem fl_Ck_74 : gFl "ProofGate$Checker" 74 "ProofGate$Fact" "of" "I" := Or.inr ⟨"ProofGate", nb1 146 rfl rfl⟩
theorem ff_Fa_28 : Cond.fieldLink "ProofGate$Fact" 28 "ProofGate$Fact" "to" "I" ∈ TB := tb1 147 rfl rfl
theorem fl_Fa_28 : gFl "ProofGate$Fact" 28 "ProofGate$Fact" "to" "I" := Or.inl ff_Fa_28
theorem fl_Ck_111 : gFl "ProofGate$Checker" 111 "ProofGate$Fact" "to" "I" := Or.inr ⟨"ProofGate", nb1 148 rfl rfl⟩
theorem ff_Fa_31 : Cond.fieldLink "ProofGate$Fact" 31 "ProofGate$Fact" "right" "I" ∈ TB := tb1 149 rfl rfl
theorem fl_Fa_31 : gFl "ProofGate$Fact" 31 "ProofGate$Fact" "right" "I" := Or.inl ff_Fa_31
theorem fl_Ck_80 : gFl "ProofGate$Checker" 80 "ProofGate$Fact" "right" "I" := Or.inr ⟨"ProofGate", nb1 150 rfl rfl⟩
theorem ff_Fa_34 : Cond.fieldLink "ProofGate$Fact" 34 "ProofGate$Fact" "object" "I" ∈ TB := tb1 151 rfl rfl
theorem fl_Fa_34 : gFl "ProofGate$Fact" 34 "ProofGate$Fact" "object" "I" := Or.inl ff_Fa_34
theorem ff_Fa_37 : Cond.fieldLink "ProofGate$Fact" 37 "ProofGate$Fact" "depth" "I" ∈ TB := tb1 152 rfl rfl
theorem fl_Fa_37 : gFl "ProofGate$Fact" 37 "ProofGate$Fact" "depth" "I" := Or.inl ff_Fa_37
theorem fl_Ck_102 : gFl "ProofGate$Checker" 102 "ProofGate$Fact" "depth" "I" := Or.inr ⟨"ProofGate", nb1 153 rfl rfl⟩
theorem ff_Ck_17 : Cond.fieldLink "ProofGate$Checker" 17 "ProofGate$Checker" "held" "LProofGate$Credentials;" ∈ TB := tb1 167 rfl rfl
theorem fl_Ck_17 : gFl "ProofGate$Checker" 17 "ProofGate$Checker" "held" "LProofGate$Credentials;" := Or.inl ff_Ck_17
theorem ff_Ck_11 : Cond.fieldLink "ProofGate$Checker" 11 "ProofGate$Checker" "facts" "[LProofGate$Fact;" ∈ TB := tb1 168 rfl rfl
theorem fl_Ck_11 : gFl "ProofGate$Checker" 11 "ProofGate$Checker" "facts" "[LProofGate$Fact;" := Or.inl ff_Ck_11
theorem cl_Ga_45 : Cond.classLink "ProofGate" 45 "ProofGate$AuditLog" ∈ TB := tb1 174 rfl rfl
theorem in_Lg : Cond.instantiable "ProofGate$AuditLog" 2 ∈ TB := tb1 175 rfl rfl
theorem ml_Ga_47 : gMl "ProofGate" 47 y_Lg_init := Or.inr ⟨"ProofGate", nb1 176 rfl rfl⟩
theorem ml_Lg_1 : gMl "ProofGate$AuditLog" 1 y_Jo_init := Or.inl (tb1 179 rfl rfl)
theorem mo_Lg_1 : Cond.methodLink "ProofGate$AuditLog" 1 Lib.objectInit ∈ TB := tb1 179 rfl rfl
theorem ff_Lg_7 : Cond.fieldLink "ProofGate$AuditLog" 7 "ProofGate$AuditLog" "count" "I" ∈ TB := tb1 180 rfl rfl
theorem fl_Lg_7 : gFl "ProofGate$AuditLog" 7 "ProofGate$AuditLog" "count" "I" := Or.inl ff_Lg_7
theorem ff_Lg_13 : Cond.fieldLink "ProofGate$AuditLog" 13 "ProofGate$AuditLog" "link" "I" ∈ TB := tb1 181 rfl rfl
theorem fl_Lg_13 : gFl "ProofGate$AuditLog" 13 "ProofGate$AuditLog" "link" "I" := Or.inl ff_Lg_13
theorem cl_Ga_52 : Cond.classLink "ProofGate" 52 "ProofGate$Fuse" ∈ TB := tb1 187 rfl rfl
theorem in_Fu : Cond.instantiable "ProofGate$Fuse" 1 ∈ TB := tb1 188 rfl rfl
theorem ml_Ga_54 : gMl "ProofGate" 54 y_Fu_init := Or.inr ⟨"ProofGate", nb1 189 rfl rfl⟩
theorem ml_Fu_1 : gMl "ProofGate$Fuse" 1 y_Jo_init := Or.inl (tb1 192 rfl rfl)
theorem mo_Fu_1 : Cond.methodLink "ProofGate$Fuse" 1 Lib.objectInit ∈ TB := tb1 192 rfl rfl
theorem ff_Fu_9 : Cond.fieldLink "ProofGate$Fuse" 9 "ProofGate$Fuse" "left" "I" ∈ TB := tb1 193 rfl rfl
theorem fl_Fu_9 : gFl "ProofGate$Fuse" 9 "ProofGate$Fuse" "left" "I" := Or.inl ff_Fu_9
theorem ml_Ga_69 : gMl "ProofGate" 69 y_Ar_fill := Or.inl (tb1 197 rfl rfl)
theorem ff_Ga_65 : Cond.fieldLink "ProofGate" 65 "ProofGate" "secret" "I" ∈ TB := tb1 200 rfl rfl
theorem fl_Ga_65 : gFl "ProofGate" 65 "ProofGate" "secret" "I" := Or.inl ff_Ga_65
theorem ff_Ga_9 : Cond.fieldLink "ProofGate" 9 "ProofGate" "numbers" "[I" ∈ TB := tb1 201 rfl rfl
theorem fl_Ga_9 : gFl "ProofGate" 9 "ProofGate" "numbers" "[I" := Or.inl ff_Ga_9
theorem ff_Ga_18 : Cond.fieldLink "ProofGate" 18 "ProofGate" "held" "LProofGate$Credentials;" ∈ TB := tb1 202 rfl rfl
theorem fl_Ga_18 : gFl "ProofGate" 18 "ProofGate" "held" "LProofGate$Credentials;" := Or.inl ff_Ga_18
theorem ff_Ga_25 : Cond.fieldLink "ProofGate" 25 "ProofGate" "draft" "LProofGate$Proof;" ∈ TB := tb1 203 rfl rfl
theorem fl_Ga_25 : gFl "ProofGate" 25 "ProofGate" "draft" "LProofGate$Proof;" := Or.inl ff_Ga_25
theorem ff_Ga_34 : Cond.fieldLink "ProofGate" 34 "ProofGate" "prover" "LProofGate$Prover;" ∈ TB := tb1 204 rfl rfl
theorem fl_Ga_34 : gFl "ProofGate" 34 "ProofGate" "prover" "LProofGate$Prover;" := Or.inl ff_Ga_34
theorem ff_Ga_41 : Cond.fieldLink "ProofGate" 41 "ProofGate" "checker" "LProofGate$Checker;" ∈ TB := tb1 205 rfl rfl
theorem fl_Ga_41 : gFl "ProofGate" 41 "ProofGate" "checker" "LProofGate$Checker;" := Or.inl ff_Ga_41
theorem ff_Ga_48 : Cond.fieldLink "ProofGate" 48 "ProofGate" "log" "LProofGate$AuditLog;" ∈ TB := tb1 206 rfl rfl
theorem fl_Ga_48 : gFl "ProofGate" 48 "ProofGate" "log" "LProofGate$AuditLog;" := Or.inl ff_Ga_48
theorem ff_Ga_55 : Cond.fieldLink "ProofGate" 55 "ProofGate" "wire" "LProofGate$Fuse;" ∈ TB := tb1 207 rfl rfl
theorem fl_Ga_55 : gFl "ProofGate" 55 "ProofGate" "wire" "LProofGate$Fuse;" := Or.inl ff_Ga_55
theorem ff_Ga_59 : Cond.fieldLink "ProofGate" 59 "ProofGate" "owners" "[I" ∈ TB := tb1 208 rfl rfl
theorem fl_Ga_59 : gFl "ProofGate" 59 "ProofGate" "owners" "[I" := Or.inl ff_Ga_59
theorem ff_Ga_62 : Cond.fieldLink "ProofGate" 62 "ProofGate" "values" "[I" ∈ TB := tb1 209 rfl rfl
theorem fl_Ga_62 : gFl "ProofGate" 62 "ProofGate" "values" "[I" := Or.inl ff_Ga_62
theorem ml_Lw_41 : gMl "ProofGateLaw" 41 y_Ga_seal := Or.inl (tb1 231 rfl rfl)
theorem cl_Ga_7 : Cond.classLink "ProofGate" 7 "ProofGate$Credential" ∈ TB := tb1 235 rfl rfl
theorem in_Cr : Cond.instantiable "ProofGate$Credential" 6 ∈ TB := tb1 236 rfl rfl
theorem ml_Ga_75 : gMl "ProofGate" 75 y_Cr_init := Or.inr ⟨"ProofGate", nb1 237 rfl rfl⟩
theorem ml_Cr_3 : gMl "ProofGate$Credential" 3 y_Jo_init := Or.inl (tb2 0 rfl rfl)
theorem mo_Cr_3 : Cond.methodLink "ProofGate$Credential" 3 Lib.objectInit ∈ TB := tb2 0 rfl rfl
theorem ml_Cr_28 : gMl "ProofGate$Credential" 28 y_Cr_isKind := Or.inl (tb2 1 rfl rfl)
theorem ml_Cr_32 : gMl "ProofGate$Credential" 32 y_Cr_limit := Or.inl (tb2 4 rfl rfl)
theorem ff_Cr_36 : Cond.fieldLink "ProofGate$Credential" 36 "ProofGate$Credential" "LIMITS" "[I" ∈ TB := tb2 7 rfl rfl
theorem fl_Cr_36 : gFl "ProofGate$Credential" 36 "ProofGate$Credential" "LIMITS" "[I" := Or.inl ff_Cr_36
theorem ff_Cr_15 : Cond.fieldLink "ProofGate$Credential" 15 "ProofGate$Credential" "issuer" "I" ∈ TB := tb2 9 rfl rfl
theorem fl_Cr_15 : gFl "ProofGate$Credential" 15 "ProofGate$Credential" "issuer" "I" := Or.inl ff_Cr_15
theorem fl_Fa_18 : gFl "ProofGate$Fact" 18 "ProofGate$Credential" "issuer" "I" := Or.inr ⟨"ProofGate", nb2 10 rfl rfl⟩
theorem fl_Ga_122 : gFl "ProofGate" 122 "ProofGate$Credential" "issuer" "I" := Or.inr ⟨"ProofGate", nb2 11 rfl rfl⟩
theorem fl_Ck_77 : gFl "ProofGate$Checker" 77 "ProofGate$Credential" "issuer" "I" := Or.inr ⟨"ProofGate", nb2 12 rfl rfl⟩
theorem fl_Pv_120 : gFl "ProofGate$Prover" 120 "ProofGate$Credential" "issuer" "I" := Or.inr ⟨"ProofGate", nb2 13 rfl rfl⟩
theorem ff_Cr_19 : Cond.fieldLink "ProofGate$Credential" 19 "ProofGate$Credential" "kind" "I" ∈ TB := tb2 14 rfl rfl
theorem fl_Cr_19 : gFl "ProofGate$Credential" 19 "ProofGate$Credential" "kind" "I" := Or.inl ff_Cr_19
theorem fl_Fa_9 : gFl "ProofGate$Fact" 9 "ProofGate$Credential" "kind" "I" := Or.inr ⟨"ProofGate", nb2 15 rfl rfl⟩
theorem fl_Ck_63 : gFl "ProofGate$Checker" 63 "ProofGate$Credential" "kind" "I" := Or.inr ⟨"ProofGate", nb2 16 rfl rfl⟩
theorem fl_Pv_117 : gFl "ProofGate$Prover" 117 "ProofGate$Credential" "kind" "I" := Or.inr ⟨"ProofGate", nb2 17 rfl rfl⟩
theorem ff_Cr_11 : Cond.fieldLink "ProofGate$Credential" 11 "ProofGate$Credential" "numbers" "[I" ∈ TB := tb2 18 rfl rfl
theorem fl_Cr_11 : gFl "ProofGate$Credential" 11 "ProofGate$Credential" "numbers" "[I" := Or.inl ff_Cr_11
theorem fl_Fa_24 : gFl "ProofGate$Fact" 24 "ProofGate$Credential" "numbers" "[I" := Or.inr ⟨"ProofGate", nb2 19 rfl rfl⟩
theorem fl_Ck_83 : gFl "ProofGate$Checker" 83 "ProofGate$Credential" "numbers" "[I" := Or.inr ⟨"ProofGate", nb2 20 rfl rfl⟩
theorem fl_Pv_112 : gFl "ProofGate$Prover" 112 "ProofGate$Credential" "numbers" "[I" := Or.inr ⟨"ProofGate", nb2 21 rfl rfl⟩
theorem ff_Cr_22 : Cond.fieldLink "ProofGate$Credential" 22 "ProofGate$Credential" "first" "I" ∈ TB := tb2 22 rfl rfl
theorem fl_Cr_22 : gFl "ProofGate$Credential" 22 "ProofGate$Credential" "first" "I" := Or.inl ff_Cr_22
theorem ff_Cr_25 : Cond.fieldLink "ProofGate$Credential" 25 "ProofGate$Credential" "last" "I" ∈ TB := tb2 23 rfl rfl
theorem fl_Cr_25 : gFl "ProofGate$Credential" 25 "ProofGate$Credential" "last" "I" := Or.inl ff_Cr_25
theorem ff_Cr_42 : Cond.fieldLink "ProofGate$Credential" 42 "ProofGate$Credential" "revoked" "Z" ∈ TB := tb2 24 rfl rfl
theorem fl_Cr_42 : gFl "ProofGate$Credential" 42 "ProofGate$Credential" "revoked" "Z" := Or.inl ff_Cr_42
theorem fl_Ga_127 : gFl "ProofGate" 127 "ProofGate$Credential" "revoked" "Z" := Or.inr ⟨"ProofGate", nb2 25 rfl rfl⟩
theorem ml_Ga_78 : gMl "ProofGate" 78 y_Ga_sealOf := Or.inl (tb2 39 rfl rfl)
theorem ml_Ga_216 : gMl "ProofGate" 216 y_Cr_mark := Or.inr ⟨"ProofGate", nb2 43 rfl rfl⟩
theorem ml_Cr_46 : gMl "ProofGate$Credential" 46 y_Cr_mix := Or.inl (tb2 47 rfl rfl)
theorem ct_Cr_49 : Cond.constant "ProofGate$Credential" 49 (1540483477) ∈ TB := tb2 50 rfl rfl
theorem ct_Ga_219 : Cond.constant "ProofGate" 219 (668265263) ∈ TB := tb2 51 rfl rfl
theorem ml_Lw_54 : gMl "ProofGateLaw" 54 y_Ga_set := Or.inl (tb2 52 rfl rfl)
theorem ml_Lw_63 : gMl "ProofGateLaw" 63 y_Ga_pass := Or.inl (tb2 56 rfl rfl)
theorem ml_Ga_131 : gMl "ProofGate" 131 y_Cs_letTimeGoOn := Or.inr ⟨"ProofGate", nb2 60 rfl rfl⟩
theorem ml_Lw_68 : gMl "ProofGateLaw" 68 y_Ga_step := Or.inl (tb2 64 rfl rfl)
theorem ml_Ga_135 : gMl "ProofGate" 135 y_Pf_append := Or.inr ⟨"ProofGate", nb2 68 rfl rfl⟩
theorem ml_Lw_73 : gMl "ProofGateLaw" 73 y_Ga_clear := Or.inl (tb2 72 rfl rfl)
theorem ml_Ga_139 : gMl "ProofGate" 139 y_Pf_makeEmpty := Or.inr ⟨"ProofGate", nb2 76 rfl rfl⟩
theorem ml_Lw_77 : gMl "ProofGateLaw" 77 y_Ga_steps := Or.inl (tb2 80 rfl rfl)
theorem ml_Ga_142 : gMl "ProofGate" 142 y_Pf_length := Or.inr ⟨"ProofGate", nb2 84 rfl rfl⟩
theorem ml_Lw_81 : gMl "ProofGateLaw" 81 y_Ga_stepAt := Or.inl (tb2 88 rfl rfl)
theorem ml_Ga_145 : gMl "ProofGate" 145 y_Pf_hasStep := Or.inr ⟨"ProofGate", nb2 92 rfl rfl⟩
theorem ml_Ga_149 : gMl "ProofGate" 149 y_Pf_ruleAt := Or.inr ⟨"ProofGate", nb2 96 rfl rfl⟩
theorem ml_Ga_152 : gMl "ProofGate" 152 y_Pf_xAt := Or.inr ⟨"ProofGate", nb2 100 rfl rfl⟩
theorem ml_Ga_155 : gMl "ProofGate" 155 y_Pf_yAt := Or.inr ⟨"ProofGate", nb2 104 rfl rfl⟩
theorem ml_Lw_86 : gMl "ProofGateLaw" 86 y_Ga_prove := Or.inl (tb2 108 rfl rfl)
theorem ml_Ga_158 : gMl "ProofGate" 158 y_Ga_isNamed := Or.inl (tb2 112 rfl rfl)
theorem ml_Ga_225 : gMl "ProofGate" 225 y_Ga_isPrincipal := Or.inl (tb2 115 rfl rfl)
theorem ml_Ga_206 : gMl "ProofGate" 206 y_Ga_isObject := Or.inl (tb2 118 rfl rfl)
theorem ml_Ga_162 : gMl "ProofGate" 162 y_Ga_isOpenTo := Or.inl (tb2 121 rfl rfl)
theorem ml_Ga_166 : gMl "ProofGate" 166 y_Ga_sayerOfGoal := Or.inl (tb2 125 rfl rfl)
theorem ml_Ga_170 : gMl "ProofGate" 170 y_Pv_writeProof := Or.inr ⟨"ProofGate", nb2 129 rfl rfl⟩
theorem ml_Pv_38 : gMl "ProofGate$Prover" 38 y_Pv_may := Or.inl (tb2 133 rfl rfl)
theorem ml_Pv_42 : gMl "ProofGate$Prover" 42 y_Pv_finds := Or.inl (tb2 136 rfl rfl)
theorem ml_Pv_50 : gMl "ProofGate$Prover" 50 y_Ar_fill := Or.inl (tb2 140 rfl rfl)
theorem ml_Pv_70 : gMl "ProofGate$Prover" 70 y_Pv_findWhatIsSaid := Or.inl (tb2 141 rfl rfl)
theorem ml_Pv_95 : gMl "ProofGate$Prover" 95 y_Cs_count := Or.inr ⟨"ProofGate", nb2 145 rfl rfl⟩
theorem ml_Cs_16 : gMl "ProofGate$Credentials" 16 y_AL_size := Or.inl (tb2 149 rfl rfl)
theorem ml_Pv_100 : gMl "ProofGate$Prover" 100 y_Cs_findValid := Or.inr ⟨"ProofGate", nb2 153 rfl rfl⟩
theorem ml_Cs_34 : gMl "ProofGate$Credentials" 34 y_Cs_find := Or.inl (tb2 157 rfl rfl)
theorem ml_Cs_28 : gMl "ProofGate$Credentials" 28 y_AL_get := Or.inl (tb2 161 rfl rfl)
theorem ml_AL_118 : gMl "java/util/ArrayList" 118 y_Ob_checkIndex := Or.inl (tb2 165 rfl rfl)
theorem ml_Ob_105 : gMl "java/util/Objects" 105 y_Pr_checkIndex := Or.inl (tb2 168 rfl rfl)
theorem ml_AL_123 : gMl "java/util/ArrayList" 123 y_AL_elementData := Or.inl (tb2 171 rfl rfl)
theorem cl_Cs_32 : Cond.classLink "ProofGate$Credentials" 32 "ProofGate$Credential" ∈ TB := tb2 175 rfl rfl
theorem ml_Cs_38 : gMl "ProofGate$Credentials" 38 y_Cr_isValidAt := Or.inr ⟨"ProofGate", nb2 176 rfl rfl⟩
theorem ml_Pv_104 : gMl "ProofGate$Prover" 104 y_Pv_factSaidBy := Or.inl (tb2 180 rfl rfl)
theorem ml_Pv_123 : gMl "ProofGate$Prover" 123 y_Pv_speaks := Or.inl (tb2 183 rfl rfl)
theorem ml_Pv_127 : gMl "ProofGate$Prover" 127 y_Pv_trusts := Or.inl (tb2 186 rfl rfl)
theorem ml_Pv_108 : gMl "ProofGate$Prover" 108 y_Pv_reach := Or.inl (tb2 189 rfl rfl)
theorem ml_Pv_74 : gMl "ProofGate$Prover" 74 y_Pv_findWhatFollows := Or.inl (tb2 193 rfl rfl)
theorem ml_Pv_77 : gMl "ProofGate$Prover" 77 y_Pv_findMayByVoice := Or.inl (tb2 197 rfl rfl)
theorem ml_Pv_131 : gMl "ProofGate$Prover" 131 y_Pv_isKnown := Or.inl (tb2 201 rfl rfl)
theorem ml_Pv_135 : gMl "ProofGate$Prover" 135 y_Pv_handOnMay := Or.inl (tb2 205 rfl rfl)
theorem ml_Pv_80 : gMl "ProofGate$Prover" 80 y_Pv_findMayByTrust := Or.inl (tb2 209 rfl rfl)
theorem ml_Pv_83 : gMl "ProofGate$Prover" 83 y_Pv_findTrustByTrust := Or.inl (tb2 213 rfl rfl)
theorem ml_Pv_139 : gMl "ProofGate$Prover" 139 y_Pv_handOnTrust := Or.inl (tb2 217 rfl rfl)
theorem ml_Pv_143 : gMl "ProofGate$Prover" 143 y_Ma_min := Or.inl (tb2 221 rfl rfl)
theorem ml_Pv_86 : gMl "ProofGate$Prover" 86 y_Pv_findTrustByVoice := Or.inl (tb2 224 rfl rfl)
theorem ml_Pv_89 : gMl "ProofGate$Prover" 89 y_Pv_findVoiceByVoice := Or.inl (tb2 228 rfl rfl)
theorem ml_Pv_148 : gMl "ProofGate$Prover" 148 y_Pv_handOnVoice := Or.inl (tb2 232 rfl rfl)
theorem ml_Pv_92 : gMl "ProofGate$Prover" 92 y_Pv_findImplied := Or.inl (tb2 236 rfl rfl)
theorem ml_Pv_152 : gMl "ProofGate$Prover" 152 y_Pv_applyImply := Or.inl (tb3 0 rfl rfl)
theorem ml_Pv_46 : gMl "ProofGate$Prover" 46 y_Pf_makeEmpty := Or.inr ⟨"ProofGate", nb3 4 rfl rfl⟩
theorem ml_Pv_56 : gMl "ProofGate$Prover" 56 y_Pv_writesStep := Or.inl (tb3 5 rfl rfl)
theorem ml_Pv_155 : gMl "ProofGate$Prover" 155 y_Pf_append := Or.inr ⟨"ProofGate", nb3 9 rfl rfl⟩
theorem ml_Pv_59 : gMl "ProofGate$Prover" 59 y_Pf_length := Or.inr ⟨"ProofGate", nb3 10 rfl rfl⟩
theorem ml_Ga_174 : gMl "ProofGate" 174 y_Pv_written := Or.inr ⟨"ProofGate", nb3 11 rfl rfl⟩
theorem ml_Ga_178 : gMl "ProofGate" 178 y_Pf_become := Or.inr ⟨"ProofGate", nb3 15 rfl rfl⟩
theorem ml_Pf_25 : gMl "ProofGate$Proof" 25 ⟨"java/lang/System", "arraycopy", "(Ljava/lang/Object;ILjava/lang/Object;II)V"⟩ := Or.inl (tb3 19 rfl rfl)
theorem ml_Lw_90 : gMl "ProofGateLaw" 90 y_Ga_check := Or.inl (tb3 22 rfl rfl)
theorem ml_Ga_182 : gMl "ProofGate" 182 y_Ck_accepts := Or.inr ⟨"ProofGate", nb3 26 rfl rfl⟩
theorem ml_Ck_22 : gMl "ProofGate$Checker" 22 y_Pf_length := Or.inr ⟨"ProofGate", nb3 30 rfl rfl⟩
theorem ml_Ck_28 : gMl "ProofGate$Checker" 28 y_Pf_ruleAt := Or.inr ⟨"ProofGate", nb3 31 rfl rfl⟩
theorem ml_Ck_32 : gMl "ProofGate$Checker" 32 y_Pf_xAt := Or.inr ⟨"ProofGate", nb3 32 rfl rfl⟩
theorem ml_Ck_35 : gMl "ProofGate$Checker" 35 y_Pf_yAt := Or.inr ⟨"ProofGate", nb3 33 rfl rfl⟩
theorem ml_Ck_38 : gMl "ProofGate$Checker" 38 y_Ck_follows := Or.inl (tb3 34 rfl rfl)
theorem ml_Ck_45 : gMl "ProofGate$Checker" 45 y_Cs_findValid := Or.inr ⟨"ProofGate", nb3 38 rfl rfl⟩
theorem ml_Ck_51 : gMl "ProofGate$Checker" 51 y_Ck_isSaid := Or.inl (tb3 39 rfl rfl)
theorem ml_Ck_69 : gMl "ProofGate$Checker" 69 y_Fa_becomeSaidBy := Or.inr ⟨"ProofGate", nb3 42 rfl rfl⟩
theorem ml_Ck_55 : gMl "ProofGate$Checker" 55 y_Ck_isImplied := Or.inl (tb3 46 rfl rfl)
theorem ml_Ck_87 : gMl "ProofGate$Checker" 87 y_Fa_become := Or.inr ⟨"ProofGate", nb3 49 rfl rfl⟩
theorem ml_Ck_59 : gMl "ProofGate$Checker" 59 y_Ck_isJoined := Or.inl (tb3 53 rfl rfl)
theorem ml_Ck_91 : gMl "ProofGate$Checker" 91 y_Ck_isHandedOn := Or.inl (tb3 56 rfl rfl)
theorem ml_Ck_95 : gMl "ProofGate$Checker" 95 y_Fa_isOfSameThing := Or.inr ⟨"ProofGate", nb3 59 rfl rfl⟩
theorem ml_Ck_99 : gMl "ProofGate$Checker" 99 y_Ck_isTrustedDeeper := Or.inl (tb3 63 rfl rfl)
theorem ml_Ck_105 : gMl "ProofGate$Checker" 105 y_Ma_min := Or.inl (tb3 66 rfl rfl)
theorem ml_Ck_42 : gMl "ProofGate$Checker" 42 y_Fa_isMay := Or.inr ⟨"ProofGate", nb3 67 rfl rfl⟩
theorem ml_Lw_99 : gMl "ProofGateLaw" 99 y_Ga_fuse := Or.inl (tb3 71 rfl rfl)
theorem ml_Ga_202 : gMl "ProofGate" 202 y_Fu_light := Or.inr ⟨"ProofGate", nb3 75 rfl rfl⟩
theorem ml_Lw_104 : gMl "ProofGateLaw" 104 y_Ga_owner := Or.inl (tb3 79 rfl rfl)
theorem ml_Lw_108 : gMl "ProofGateLaw" 108 y_Ga_credentials := Or.inl (tb3 83 rfl rfl)
theorem ml_Ga_98 : gMl "ProofGate" 98 y_Cs_count := Or.inr ⟨"ProofGate", nb3 87 rfl rfl⟩
theorem ml_Lw_112 : gMl "ProofGateLaw" 112 y_Ga_valid := Or.inl (tb3 88 rfl rfl)
theorem ml_Ga_209 : gMl "ProofGate" 209 y_Cs_findValid := Or.inr ⟨"ProofGate", nb3 92 rfl rfl⟩
theorem ml_Lw_116 : gMl "ProofGateLaw" 116 y_Ga_grants := Or.inl (tb3 93 rfl rfl)
theorem ml_Ga_212 : gMl "ProofGate" 212 y_Lg_count := Or.inr ⟨"ProofGate", nb3 97 rfl rfl⟩
theorem ml_Lw_120 : gMl "ProofGateLaw" 120 y_Ga_chain := Or.inl (tb3 101 rfl rfl)
theorem ml_Ga_213 : gMl "ProofGate" 213 y_Lg_link := Or.inr ⟨"ProofGate", nb3 105 rfl rfl⟩
theorem ml_Lw_29 : gMl "ProofGateLaw" 29 y_Lw_cell := Or.inl (tb3 109 rfl rfl)
theorem ml_Lw_46 : gMl "ProofGateLaw" 46 y_Lw_submit := Or.inl (tb3 112 rfl rfl)
theorem cl_Lw_13 : Cond.classLink "ProofGateLaw" 13 "java/lang/IllegalArgumentException" ∈ TB := tb3 115 rfl rfl
theorem cl_Lw_15 : Cond.classLink "ProofGateLaw" 15 "java/lang/UnsupportedOperationException" ∈ TB := tb3 116 rfl rfl
theorem cl_Lw_17 : Cond.classLink "ProofGateLaw" 17 "java/lang/IllegalStateException" ∈ TB := tb3 117 rfl rfl
theorem ml_Lw_7 : gMl "ProofGateLaw" 7 y_Ga_submit := Or.inl (tb3 118 rfl rfl)
theorem ml_Ga_82 : gMl "ProofGate" 82 y_Cr_isWellFormed := Or.inr ⟨"ProofGate", nb3 122 rfl rfl⟩
theorem ml_Cr_39 : gMl "ProofGate$Credential" 39 y_Ga_isPrincipal := Or.inr ⟨"ProofGate", nb3 126 rfl rfl⟩
theorem cl_Ga_86 : Cond.classLink "ProofGate" 86 "java/lang/IllegalArgumentException" ∈ TB := tb3 127 rfl rfl
theorem ml_Ga_90 : gMl "ProofGate" 90 ⟨"java/lang/IllegalArgumentException", "<init>", "(Ljava/lang/String;)V"⟩ := Or.inl (tb3 170 rfl rfl)
theorem ac_byte : Cond.arrayClass .byte ∈ TB := tb3 195 rfl rfl
theorem cl_Ga_93 : Cond.classLink "ProofGate" 93 "java/lang/UnsupportedOperationException" ∈ TB := tb3 196 rfl rfl
theorem ml_Ga_97 : gMl "ProofGate" 97 ⟨"java/lang/UnsupportedOperationException", "<init>", "(Ljava/lang/String;)V"⟩ := Or.inl (tb3 206 rfl rfl)
theorem cl_Ga_102 : Cond.classLink "ProofGate" 102 "java/lang/IllegalStateException" ∈ TB := tb3 212 rfl rfl
theorem ml_Ga_106 : gMl "ProofGate" 106 ⟨"java/lang/IllegalStateException", "<init>", "(Ljava/lang/String;)V"⟩ := Or.inl (tb3 222 rfl rfl)
theorem ml_Ga_107 : gMl "ProofGate" 107 y_Ga_writeRecord := Or.inl (tb3 228 rfl rfl)
theorem ml_Ga_220 : gMl "ProofGate" 220 y_Fu_burnsThrough := Or.inr ⟨"ProofGate", nb3 232 rfl rfl⟩
theorem ml_Ga_110 : gMl "ProofGate" 110 y_Cs_take := Or.inr ⟨"ProofGate", nb3 237 rfl rfl⟩
theorem ml_Cs_20 : gMl "ProofGate$Credentials" 20 y_AL_add := Or.inl (tb4 1 rfl rfl)
theorem ml_AL_131 : gMl "java/util/ArrayList" 131 y_AL_add2 := Or.inl (tb4 5 rfl rfl)
theorem ml_AL_129 : gMl "java/util/ArrayList" 129 y_AL_grow := Or.inl (tb4 9 rfl rfl)
theorem ml_AL_69 : gMl "java/util/ArrayList" 69 y_AL_grow2 := Or.inl (tb4 13 rfl rfl)
theorem ml_AL_73 : gMl "java/util/ArrayList" 73 y_As_newLength := Or.inl (tb4 17 rfl rfl)
theorem ml_As_194 : gMl "jdk/internal/util/ArraysSupport" 194 y_Ma_max := Or.inl (tb4 20 rfl rfl)
theorem ct_As_200 : Cond.constant "jdk/internal/util/ArraysSupport" 200 (2147483639) ∈ TB := tb4 23 rfl rfl
theorem ml_As_201 : gMl "jdk/internal/util/ArraysSupport" 201 y_As_hugeLength := Or.inl (tb4 24 rfl rfl)
theorem ml_AL_66 : gMl "java/util/ArrayList" 66 y_Ar_copyOf := Or.inl (tb4 27 rfl rfl)
theorem ml_Ar_86 : gMl "java/util/Arrays" 86 ⟨"java/lang/Object", "getClass", "()Ljava/lang/Class;"⟩ := Or.inl (tb4 30 rfl rfl)
theorem ml_Ar_300 : gMl "java/util/Arrays" 300 y_Ar_copyOf2 := Or.inl (tb4 49 rfl rfl)
theorem cl_Ar_110 : Cond.classLink "java/util/Arrays" 110 "[Ljava/lang/Object;" ∈ TB := tb4 52 rfl rfl
theorem cl_Ar_2 : Cond.classLink "java/util/Arrays" 2 "java/lang/Object" ∈ TB := tb4 54 rfl rfl
theorem ml_Ar_304 : gMl "java/util/Arrays" 304 y_Ma_min := Or.inl (tb4 55 rfl rfl)
theorem ml_Ar_150 : gMl "java/util/Arrays" 150 ⟨"java/lang/System", "arraycopy", "(Ljava/lang/Object;ILjava/lang/Object;II)V"⟩ := Or.inl (tb4 56 rfl rfl)
theorem ml_AL_79 : gMl "java/util/ArrayList" 79 y_Ma_max := Or.inl (tb4 57 rfl rfl)
theorem cl_AL_7 : Cond.classLink "java/util/ArrayList" 7 "java/lang/Object" ∈ TB := tb4 58 rfl rfl
theorem ml_Lw_59 : gMl "ProofGateLaw" 59 y_Lw_revoke := Or.inl (tb4 59 rfl rfl)
theorem cl_Lw_23 : Cond.classLink "ProofGateLaw" 23 "java/util/NoSuchElementException" ∈ TB := tb4 62 rfl rfl
theorem ml_Lw_19 : gMl "ProofGateLaw" 19 y_Ga_revoke := Or.inl (tb4 63 rfl rfl)
theorem ml_Ga_113 : gMl "ProofGate" 113 y_Cs_find := Or.inr ⟨"ProofGate", nb4 67 rfl rfl⟩
theorem cl_Ga_117 : Cond.classLink "ProofGate" 117 "java/util/NoSuchElementException" ∈ TB := tb4 68 rfl rfl
theorem ml_Ga_121 : gMl "ProofGate" 121 ⟨"java/util/NoSuchElementException", "<init>", "(Ljava/lang/String;)V"⟩ := Or.inl (tb4 78 rfl rfl)
theorem ml_Lw_95 : gMl "ProofGateLaw" 95 y_Lw_request := Or.inl (tb4 85 rfl rfl)
theorem ml_Lw_25 : gMl "ProofGateLaw" 25 y_Ga_request := Or.inl (tb4 88 rfl rfl)
theorem ml_Ga_190 : gMl "ProofGate" 190 y_Ga_useUpDraft := Or.inl (tb4 94 rfl rfl)
theorem ml_Ga_195 : gMl "ProofGate" 195 y_Lg_addGrant := Or.inr ⟨"ProofGate", nb4 99 rfl rfl⟩
theorem ml_Ga_199 : gMl "ProofGate" 199 y_Ga_carryOut := Or.inl (tb4 103 rfl rfl)
theorem cl_Lw_38 : Cond.classLink "ProofGateLaw" 38 "ProofGateModel" ∈ TB := tb4 107 rfl rfl
theorem in_Mo : Cond.instantiable "ProofGateModel" 38 ∈ TB := tb4 108 rfl rfl
theorem ml_Lw_40 : gMl "ProofGateLaw" 40 y_Mo_init := Or.inl (tb4 109 rfl rfl)
theorem ml_Mo_1 : gMl "ProofGateModel" 1 y_Jo_init := Or.inl (tb4 112 rfl rfl)
theorem mo_Mo_1 : Cond.methodLink "ProofGateModel" 1 Lib.objectInit ∈ TB := tb4 112 rfl rfl
theorem ff_Mo_89 : Cond.fieldLink "ProofGateModel" 89 "ProofGateModel" "secret" "I" ∈ TB := tb4 113 rfl rfl
theorem fl_Mo_89 : gFl "ProofGateModel" 89 "ProofGateModel" "secret" "I" := Or.inl ff_Mo_89
theorem ff_Mo_141 : Cond.fieldLink "ProofGateModel" 141 "ProofGateModel" "time" "I" ∈ TB := tb4 114 rfl rfl
theorem fl_Mo_141 : gFl "ProofGateModel" 141 "ProofGateModel" "time" "I" := Or.inl ff_Mo_141
theorem ff_Mo_93 : Cond.fieldLink "ProofGateModel" 93 "ProofGateModel" "fault" "I" ∈ TB := tb4 115 rfl rfl
theorem fl_Mo_93 : gFl "ProofGateModel" 93 "ProofGateModel" "fault" "I" := Or.inl ff_Mo_93
theorem ff_Mo_96 : Cond.fieldLink "ProofGateModel" 96 "ProofGateModel" "lit" "Z" ∈ TB := tb4 116 rfl rfl
theorem fl_Mo_96 : gFl "ProofGateModel" 96 "ProofGateModel" "lit" "Z" := Or.inl ff_Mo_96
theorem ff_Mo_100 : Cond.fieldLink "ProofGateModel" 100 "ProofGateModel" "left" "I" ∈ TB := tb4 117 rfl rfl
theorem fl_Mo_100 : gFl "ProofGateModel" 100 "ProofGateModel" "left" "I" := Or.inl ff_Mo_100
theorem ff_Mo_7 : Cond.fieldLink "ProofGateModel" 7 "ProofGateModel" "there" "[Z" ∈ TB := tb4 118 rfl rfl
theorem fl_Mo_7 : gFl "ProofGateModel" 7 "ProofGateModel" "there" "[Z" := Or.inl ff_Mo_7
theorem ff_Mo_13 : Cond.fieldLink "ProofGateModel" 13 "ProofGateModel" "owner" "[I" ∈ TB := tb4 119 rfl rfl
theorem fl_Mo_13 : gFl "ProofGateModel" 13 "ProofGateModel" "owner" "[I" := Or.inl ff_Mo_13
theorem ff_Mo_17 : Cond.fieldLink "ProofGateModel" 17 "ProofGateModel" "value" "[I" ∈ TB := tb4 120 rfl rfl
theorem fl_Mo_17 : gFl "ProofGateModel" 17 "ProofGateModel" "value" "[I" := Or.inl ff_Mo_17
theorem ff_Mo_228 : Cond.fieldLink "ProofGateModel" 228 "ProofGateModel" "grants" "I" ∈ TB := tb4 121 rfl rfl
theorem fl_Mo_228 : gFl "ProofGateModel" 228 "ProofGateModel" "grants" "I" := Or.inl ff_Mo_228
theorem ff_Mo_225 : Cond.fieldLink "ProofGateModel" 225 "ProofGateModel" "chain" "I" ∈ TB := tb4 122 rfl rfl
theorem fl_Mo_225 : gFl "ProofGateModel" 225 "ProofGateModel" "chain" "I" := Or.inl ff_Mo_225
theorem ff_Mo_134 : Cond.fieldLink "ProofGateModel" 134 "ProofGateModel" "credentials" "I" ∈ TB := tb4 123 rfl rfl
theorem fl_Mo_134 : gFl "ProofGateModel" 134 "ProofGateModel" "credentials" "I" := Or.inl ff_Mo_134
theorem ff_Mo_20 : Cond.fieldLink "ProofGateModel" 20 "ProofGateModel" "issuer" "[I" ∈ TB := tb4 124 rfl rfl
theorem fl_Mo_20 : gFl "ProofGateModel" 20 "ProofGateModel" "issuer" "[I" := Or.inl ff_Mo_20
theorem ff_Mo_23 : Cond.fieldLink "ProofGateModel" 23 "ProofGateModel" "kind" "[I" ∈ TB := tb4 125 rfl rfl
theorem fl_Mo_23 : gFl "ProofGateModel" 23 "ProofGateModel" "kind" "[I" := Or.inl ff_Mo_23
theorem ff_Mo_26 : Cond.fieldLink "ProofGateModel" 26 "ProofGateModel" "one" "[I" ∈ TB := tb4 126 rfl rfl
theorem fl_Mo_26 : gFl "ProofGateModel" 26 "ProofGateModel" "one" "[I" := Or.inl ff_Mo_26
theorem ff_Mo_29 : Cond.fieldLink "ProofGateModel" 29 "ProofGateModel" "two" "[I" ∈ TB := tb4 127 rfl rfl
theorem fl_Mo_29 : gFl "ProofGateModel" 29 "ProofGateModel" "two" "[I" := Or.inl ff_Mo_29
theorem ff_Mo_32 : Cond.fieldLink "ProofGateModel" 32 "ProofGateModel" "three" "[I" ∈ TB := tb4 128 rfl rfl
theorem fl_Mo_32 : gFl "ProofGateModel" 32 "ProofGateModel" "three" "[I" := Or.inl ff_Mo_32
theorem ff_Mo_35 : Cond.fieldLink "ProofGateModel" 35 "ProofGateModel" "four" "[I" ∈ TB := tb4 129 rfl rfl
theorem fl_Mo_35 : gFl "ProofGateModel" 35 "ProofGateModel" "four" "[I" := Or.inl ff_Mo_35
theorem ff_Mo_38 : Cond.fieldLink "ProofGateModel" 38 "ProofGateModel" "first" "[I" ∈ TB := tb4 130 rfl rfl
theorem fl_Mo_38 : gFl "ProofGateModel" 38 "ProofGateModel" "first" "[I" := Or.inl ff_Mo_38
theorem ff_Mo_41 : Cond.fieldLink "ProofGateModel" 41 "ProofGateModel" "last" "[I" ∈ TB := tb4 131 rfl rfl
theorem fl_Mo_41 : gFl "ProofGateModel" 41 "ProofGateModel" "last" "[I" := Or.inl ff_Mo_41
theorem ff_Mo_44 : Cond.fieldLink "ProofGateModel" 44 "ProofGateModel" "revoked" "[Z" ∈ TB := tb4 132 rfl rfl
theorem fl_Mo_44 : gFl "ProofGateModel" 44 "ProofGateModel" "revoked" "[Z" := Or.inl ff_Mo_44
theorem ff_Mo_47 : Cond.fieldLink "ProofGateModel" 47 "ProofGateModel" "given" "[I" ∈ TB := tb4 133 rfl rfl
theorem fl_Mo_47 : gFl "ProofGateModel" 47 "ProofGateModel" "given" "[I" := Or.inl ff_Mo_47
theorem ff_Mo_103 : Cond.fieldLink "ProofGateModel" 103 "ProofGateModel" "drafted" "I" ∈ TB := tb4 134 rfl rfl
theorem fl_Mo_103 : gFl "ProofGateModel" 103 "ProofGateModel" "drafted" "I" := Or.inl ff_Mo_103
theorem ff_Mo_187 : Cond.fieldLink "ProofGateModel" 187 "ProofGateModel" "made" "I" ∈ TB := tb4 135 rfl rfl
theorem fl_Mo_187 : gFl "ProofGateModel" 187 "ProofGateModel" "made" "I" := Or.inl ff_Mo_187
theorem ff_Mo_50 : Cond.fieldLink "ProofGateModel" 50 "ProofGateModel" "rule" "[I" ∈ TB := tb4 136 rfl rfl
theorem fl_Mo_50 : gFl "ProofGateModel" 50 "ProofGateModel" "rule" "[I" := Or.inl ff_Mo_50
theorem ff_Mo_53 : Cond.fieldLink "ProofGateModel" 53 "ProofGateModel" "left1" "[I" ∈ TB := tb4 137 rfl rfl
theorem fl_Mo_53 : gFl "ProofGateModel" 53 "ProofGateModel" "left1" "[I" := Or.inl ff_Mo_53
theorem ff_Mo_56 : Cond.fieldLink "ProofGateModel" 56 "ProofGateModel" "left2" "[I" ∈ TB := tb4 138 rfl rfl
theorem fl_Mo_56 : gFl "ProofGateModel" 56 "ProofGateModel" "left2" "[I" := Or.inl ff_Mo_56
theorem ff_Mo_59 : Cond.fieldLink "ProofGateModel" 59 "ProofGateModel" "facts" "[I" ∈ TB := tb4 139 rfl rfl
theorem fl_Mo_59 : gFl "ProofGateModel" 59 "ProofGateModel" "facts" "[I" := Or.inl ff_Mo_59
theorem ff_Mo_62 : Cond.fieldLink "ProofGateModel" 62 "ProofGateModel" "madeRule" "[I" ∈ TB := tb4 140 rfl rfl
theorem fl_Mo_62 : gFl "ProofGateModel" 62 "ProofGateModel" "madeRule" "[I" := Or.inl ff_Mo_62
theorem ff_Mo_65 : Cond.fieldLink "ProofGateModel" 65 "ProofGateModel" "madeX" "[I" ∈ TB := tb4 141 rfl rfl
theorem fl_Mo_65 : gFl "ProofGateModel" 65 "ProofGateModel" "madeX" "[I" := Or.inl ff_Mo_65
theorem ff_Mo_68 : Cond.fieldLink "ProofGateModel" 68 "ProofGateModel" "madeY" "[I" ∈ TB := tb4 142 rfl rfl
theorem fl_Mo_68 : gFl "ProofGateModel" 68 "ProofGateModel" "madeY" "[I" := Or.inl ff_Mo_68
theorem ff_Mo_71 : Cond.fieldLink "ProofGateModel" 71 "ProofGateModel" "round" "[I" ∈ TB := tb4 143 rfl rfl
theorem fl_Mo_71 : gFl "ProofGateModel" 71 "ProofGateModel" "round" "[I" := Or.inl ff_Mo_71
theorem ff_Mo_74 : Cond.fieldLink "ProofGateModel" 74 "ProofGateModel" "by" "[I" ∈ TB := tb4 144 rfl rfl
theorem fl_Mo_74 : gFl "ProofGateModel" 74 "ProofGateModel" "by" "[I" := Or.inl ff_Mo_74
theorem ff_Mo_77 : Cond.fieldLink "ProofGateModel" 77 "ProofGateModel" "from" "[I" ∈ TB := tb4 145 rfl rfl
theorem fl_Mo_77 : gFl "ProofGateModel" 77 "ProofGateModel" "from" "[I" := Or.inl ff_Mo_77
theorem ff_Mo_80 : Cond.fieldLink "ProofGateModel" 80 "ProofGateModel" "with" "[I" ∈ TB := tb4 146 rfl rfl
theorem fl_Mo_80 : gFl "ProofGateModel" 80 "ProofGateModel" "with" "[I" := Or.inl ff_Mo_80
theorem ff_Mo_83 : Cond.fieldLink "ProofGateModel" 83 "ProofGateModel" "place" "[I" ∈ TB := tb4 147 rfl rfl
theorem fl_Mo_83 : gFl "ProofGateModel" 83 "ProofGateModel" "place" "[I" := Or.inl ff_Mo_83
theorem ff_Mo_86 : Cond.fieldLink "ProofGateModel" 86 "ProofGateModel" "stack" "[I" ∈ TB := tb4 148 rfl rfl
theorem fl_Mo_86 : gFl "ProofGateModel" 86 "ProofGateModel" "stack" "[I" := Or.inl ff_Mo_86
theorem ff_Mo_144 : Cond.fieldLink "ProofGateModel" 144 "ProofGateModel" "now" "I" ∈ TB := tb4 149 rfl rfl
theorem fl_Mo_144 : gFl "ProofGateModel" 144 "ProofGateModel" "now" "I" := Or.inl ff_Mo_144
theorem ff_Mo_150 : Cond.fieldLink "ProofGateModel" 150 "ProofGateModel" "about" "I" ∈ TB := tb4 150 rfl rfl
theorem fl_Mo_150 : gFl "ProofGateModel" 150 "ProofGateModel" "about" "I" := Or.inl ff_Mo_150
theorem ac_boolean : Cond.arrayClass .boolean ∈ TB := tb4 228 rfl rfl
theorem ml_Lw_50 : gMl "ProofGateLaw" 50 y_Mo_thrown := Or.inl (tb4 229 rfl rfl)
theorem ml_Lw_103 : gMl "ProofGateLaw" 103 y_Mo_fuse := Or.inl (tb4 233 rfl rfl)
theorem ml_Mo_106 : gMl "ProofGateModel" 106 y_Mo_in := Or.inl (tb4 237 rfl rfl)
theorem ml_Lw_45 : gMl "ProofGateLaw" 45 y_Mo_seal := Or.inl (tb5 0 rfl rfl)
theorem ml_Mo_111 : gMl "ProofGateModel" 111 y_Mo_mix := Or.inl (tb5 4 rfl rfl)
theorem ct_Mo_110 : Cond.constant "ProofGateModel" 110 (1540483477) ∈ TB := tb5 7 rfl rfl
theorem ct_Mo_115 : Cond.constant "ProofGateModel" 115 (668265263) ∈ TB := tb5 8 rfl rfl
theorem ml_Lw_58 : gMl "ProofGateLaw" 58 y_Mo_set := Or.inl (tb5 9 rfl rfl)
theorem ml_Lw_49 : gMl "ProofGateLaw" 49 y_Mo_submit := Or.inl (tb5 13 rfl rfl)
theorem ml_Mo_116 : gMl "ProofGateModel" 116 y_Mo_isPerson := Or.inl (tb5 17 rfl rfl)
theorem ml_Mo_123 : gMl "ProofGateModel" 123 y_Mo_isFit := Or.inl (tb5 20 rfl rfl)
theorem ml_Mo_120 : gMl "ProofGateModel" 120 y_Mo_isRight := Or.inl (tb5 24 rfl rfl)
theorem ml_Mo_126 : gMl "ProofGateModel" 126 y_Mo_fails := Or.inl (tb5 27 rfl rfl)
theorem ml_Mo_130 : gMl "ProofGateModel" 130 y_Mo_seal := Or.inl (tb5 31 rfl rfl)
theorem ml_Mo_137 : gMl "ProofGateModel" 137 y_Mo_recorded := Or.inl (tb5 32 rfl rfl)
theorem ml_Lw_62 : gMl "ProofGateLaw" 62 y_Mo_revoke := Or.inl (tb5 36 rfl rfl)
theorem ml_Lw_72 : gMl "ProofGateLaw" 72 y_Mo_step := Or.inl (tb5 40 rfl rfl)
theorem ml_Lw_76 : gMl "ProofGateLaw" 76 y_Mo_clear := Or.inl (tb5 44 rfl rfl)
theorem ml_Lw_80 : gMl "ProofGateLaw" 80 y_Mo_steps := Or.inl (tb5 48 rfl rfl)
theorem ml_Lw_85 : gMl "ProofGateLaw" 85 y_Mo_stepAt := Or.inl (tb5 52 rfl rfl)
theorem ml_Lw_89 : gMl "ProofGateLaw" 89 y_Mo_prove := Or.inl (tb5 56 rfl rfl)
theorem ml_Mo_213 : gMl "ProofGateModel" 213 y_Mo_isGoal := Or.inl (tb5 60 rfl rfl)
theorem ml_Mo_216 : gMl "ProofGateModel" 216 y_Mo_sayer := Or.inl (tb5 64 rfl rfl)
theorem ml_Mo_153 : gMl "ProofGateModel" 153 y_Mo_may := Or.inl (tb5 68 rfl rfl)
theorem ml_Mo_219 : gMl "ProofGateModel" 219 y_Mo_proof := Or.inl (tb5 71 rfl rfl)
theorem ml_Mo_181 : gMl "ProofGateModel" 181 y_Mo_said := Or.inl (tb5 75 rfl rfl)
theorem ml_Mo_147 : gMl "ProofGateModel" 147 y_Mo_holds := Or.inl (tb5 79 rfl rfl)
theorem ml_Mo_157 : gMl "ProofGateModel" 157 y_Mo_speaks := Or.inl (tb5 83 rfl rfl)
theorem ml_Mo_160 : gMl "ProofGateModel" 160 y_Mo_trusts := Or.inl (tb5 86 rfl rfl)
theorem ml_Mo_164 : gMl "ProofGateModel" 164 y_Mo_finds := Or.inl (tb5 89 rfl rfl)
theorem ml_Mo_184 : gMl "ProofGateModel" 184 y_Mo_goesOn := Or.inl (tb5 93 rfl rfl)
theorem ml_Mo_171 : gMl "ProofGateModel" 171 y_Mo_newMay := Or.inl (tb5 97 rfl rfl)
theorem ml_Mo_168 : gMl "ProofGateModel" 168 y_Mo_had := Or.inl (tb5 101 rfl rfl)
theorem ml_Mo_174 : gMl "ProofGateModel" 174 y_Mo_newTrust := Or.inl (tb5 105 rfl rfl)
theorem ml_Mo_177 : gMl "ProofGateModel" 177 y_Mo_newVoice := Or.inl (tb5 109 rfl rfl)
theorem ml_Mo_190 : gMl "ProofGateModel" 190 y_Mo_needed := Or.inl (tb5 113 rfl rfl)
theorem ml_Mo_193 : gMl "ProofGateModel" 193 y_Mo_note := Or.inl (tb5 117 rfl rfl)
theorem ml_Lw_94 : gMl "ProofGateLaw" 94 y_Mo_check := Or.inl (tb5 121 rfl rfl)
theorem ml_Mo_222 : gMl "ProofGateModel" 222 y_Mo_proves := Or.inl (tb5 125 rfl rfl)
theorem ml_Mo_210 : gMl "ProofGateModel" 210 y_Mo_proved := Or.inl (tb5 129 rfl rfl)
theorem ml_Mo_197 : gMl "ProofGateModel" 197 y_Mo_spoken := Or.inl (tb5 133 rfl rfl)
theorem ml_Mo_206 : gMl "ProofGateModel" 206 y_Mo_fact := Or.inl (tb5 137 rfl rfl)
theorem ml_Mo_200 : gMl "ProofGateModel" 200 y_Mo_stepFact := Or.inl (tb5 140 rfl rfl)
theorem ml_Mo_203 : gMl "ProofGateModel" 203 y_Mo_item := Or.inl (tb5 144 rfl rfl)
theorem ml_Lw_98 : gMl "ProofGateLaw" 98 y_Mo_request := Or.inl (tb5 147 rfl rfl)
theorem ml_Mo_231 : gMl "ProofGateModel" 231 y_Mo_done := Or.inl (tb5 151 rfl rfl)
theorem ml_Lw_67 : gMl "ProofGateLaw" 67 y_Mo_pass := Or.inl (tb5 155 rfl rfl)
theorem ml_Lw_107 : gMl "ProofGateLaw" 107 y_Mo_owner := Or.inl (tb5 159 rfl rfl)
theorem ml_Lw_111 : gMl "ProofGateLaw" 111 y_Mo_credentials := Or.inl (tb5 163 rfl rfl)
theorem ml_Lw_115 : gMl "ProofGateLaw" 115 y_Mo_valid := Or.inl (tb5 167 rfl rfl)
theorem ml_Lw_119 : gMl "ProofGateLaw" 119 y_Mo_grants := Or.inl (tb5 171 rfl rfl)
theorem ml_Lw_123 : gMl "ProofGateLaw" 123 y_Mo_chain := Or.inl (tb5 175 rfl rfl)
theorem ac_long : Cond.arrayClass .long ∈ TB := tb5 179 rfl rfl
end
section
theorem d_Lg_init_0 : decode b_Lg_init 0 = .ok (.aload_n 0, 1) := by decide +kernel
theorem d_Lg_init_1 : decode b_Lg_init 1 = .ok (.invokespecial 1, 3) := by decide +kernel
theorem d_Lg_init_4 : decode b_Lg_init 4 = .ok (.return_, 1) := by decide +kernel
theorem d_Lg_count_0 : decode b_Lg_count 0 = .ok (.aload_n 0, 1) := by decide +kernel
theorem d_Lg_count_1 : decode b_Lg_count 1 = .ok (.getfield 7, 3) := by decide +kernel
theorem d_Lg_count_4 : decode b_Lg_count 4 = .ok (.ireturn, 1) := by decide +kernel
theorem d_Lg_link_0 : decode b_Lg_link 0 = .ok (.aload_n 0, 1) := by decide +kernel
theorem d_Lg_link_1 : decode b_Lg_link 1 = .ok (.getfield 13, 3) := by decide +kernel
theorem d_Lg_link_4 : decode b_Lg_link 4 = .ok (.ireturn, 1) := by decide +kernel
theorem d_Lg_addGrant_0 : decode b_Lg_addGrant 0 = .ok (.aload_n 0, 1) := by decide +kernel
theorem d_Lg_addGrant_1 : decode b_Lg_addGrant 1 = .ok (.dup, 1) := by decide +kernel
theorem d_Lg_addGrant_2 : decode b_Lg_addGrant 2 = .ok (.getfield 7, 3) := by decide +kernel
theorem d_Lg_addGrant_5 : decode b_Lg_addGrant 5 = .ok (.iconst 1, 1) := by decide +kernel
theorem d_Lg_addGrant_6 : decode b_Lg_addGrant 6 = .ok (.iadd, 1) := by decide +kernel
theorem d_Lg_addGrant_7 : decode b_Lg_addGrant 7 = .ok (.putfield 7, 3) := by decide +kernel
theorem d_Lg_addGrant_10 : decode b_Lg_addGrant 10 = .ok (.aload_n 0, 1) := by decide +kernel
theorem d_Lg_addGrant_11 : decode b_Lg_addGrant 11 = .ok (.aload_n 0, 1) := by decide +kernel
theorem d_Lg_addGrant_12 : decode b_Lg_addGrant 12 = .ok (.getfield 13, 3) := by decide +kernel
theorem d_Lg_addGrant_15 : decode b_Lg_addGrant 15 = .ok (.iload_n 1, 1) := by decide +kernel
theorem d_Lg_addGrant_16 : decode b_Lg_addGrant 16 = .ok (.ixor, 1) := by decide +kernel
theorem d_Lg_addGrant_17 : decode b_Lg_addGrant 17 = .ok (.bipush 31, 2) := by decide +kernel
theorem d_Lg_addGrant_19 : decode b_Lg_addGrant 19 = .ok (.imul, 1) := by decide +kernel
theorem d_Lg_addGrant_20 : decode b_Lg_addGrant 20 = .ok (.bipush 8, 2) := by decide +kernel
theorem d_Lg_addGrant_22 : decode b_Lg_addGrant 22 = .ok (.iload_n 2, 1) := by decide +kernel
theorem d_Lg_addGrant_23 : decode b_Lg_addGrant 23 = .ok (.imul, 1) := by decide +kernel
theorem d_Lg_addGrant_24 : decode b_Lg_addGrant 24 = .ok (.iadd, 1) := by decide +kernel
theorem d_Lg_addGrant_25 : decode b_Lg_addGrant 25 = .ok (.iload_n 3, 1) := by decide +kernel
theorem d_Lg_addGrant_26 : decode b_Lg_addGrant 26 = .ok (.iadd, 1) := by decide +kernel
theorem d_Lg_addGrant_27 : decode b_Lg_addGrant 27 = .ok (.bipush 31, 2) := by decide +kernel
theorem d_Lg_addGrant_29 : decode b_Lg_addGrant 29 = .ok (.imul, 1) := by decide +kernel
theorem d_Lg_addGrant_30 : decode b_Lg_addGrant 30 = .ok (.iload 4, 2) := by decide +kernel
theorem d_Lg_addGrant_32 : decode b_Lg_addGrant 32 = .ok (.iadd, 1) := by decide +kernel
theorem d_Lg_addGrant_33 : decode b_Lg_addGrant 33 = .ok (.putfield 13, 3) := by decide +kernel
theorem d_Lg_addGrant_36 : decode b_Lg_addGrant 36 = .ok (.return_, 1) := by decide +kernel
theorem d_Ck_init_0 : decode b_Ck_init 0 = .ok (.aload_n 0, 1) := by decide +kernel
theorem d_Ck_init_1 : decode b_Ck_init 1 = .ok (.invokespecial 3, 3) := by decide +kernel
theorem d_Ck_init_4 : decode b_Ck_init 4 = .ok (.aload_n 0, 1) := by decide +kernel
theorem d_Ck_init_5 : decode b_Ck_init 5 = .ok (.bipush 40, 2) := by decide +kernel
theorem d_Ck_init_7 : decode b_Ck_init 7 = .ok (.anewarray 9, 3) := by decide +kernel
theorem d_Ck_init_10 : decode b_Ck_init 10 = .ok (.putfield 11, 3) := by decide +kernel
theorem d_Ck_init_13 : decode b_Ck_init 13 = .ok (.aload_n 0, 1) := by decide +kernel
theorem d_Ck_init_14 : decode b_Ck_init 14 = .ok (.aload_n 1, 1) := by decide +kernel
theorem d_Ck_init_15 : decode b_Ck_init 15 = .ok (.putfield 17, 3) := by decide +kernel
theorem d_Ck_init_18 : decode b_Ck_init 18 = .ok (.iconst 0, 1) := by decide +kernel
theorem d_Ck_init_19 : decode b_Ck_init 19 = .ok (.istore_n 2, 1) := by decide +kernel
theorem d_Ck_init_20 : decode b_Ck_init 20 = .ok (.iload_n 2, 1) := by decide +kernel
theorem d_Ck_init_21 : decode b_Ck_init 21 = .ok (.bipush 40, 2) := by decide +kernel
theorem d_Ck_init_23 : decode b_Ck_init 23 = .ok (.if_icmp .ge 22, 3) := by decide +kernel
theorem d_Ck_init_26 : decode b_Ck_init 26 = .ok (.aload_n 0, 1) := by decide +kernel
theorem d_Ck_init_27 : decode b_Ck_init 27 = .ok (.getfield 11, 3) := by decide +kernel
theorem d_Ck_init_30 : decode b_Ck_init 30 = .ok (.iload_n 2, 1) := by decide +kernel
theorem d_Ck_init_31 : decode b_Ck_init 31 = .ok (.new 9, 3) := by decide +kernel
theorem d_Ck_init_34 : decode b_Ck_init 34 = .ok (.dup, 1) := by decide +kernel
theorem d_Ck_init_35 : decode b_Ck_init 35 = .ok (.invokespecial 21, 3) := by decide +kernel
theorem d_Ck_init_38 : decode b_Ck_init 38 = .ok (.aastore, 1) := by decide +kernel
theorem d_Ck_init_39 : decode b_Ck_init 39 = .ok (.iinc 2 1, 3) := by decide +kernel
theorem d_Ck_init_42 : decode b_Ck_init 42 = .ok (.goto (-22), 3) := by decide +kernel
theorem d_Ck_init_45 : decode b_Ck_init 45 = .ok (.return_, 1) := by decide +kernel
theorem d_Ck_accepts_0 : decode b_Ck_accepts 0 = .ok (.aload_n 1, 1) := by decide +kernel
theorem d_Ck_accepts_1 : decode b_Ck_accepts 1 = .ok (.invokevirtual 22, 3) := by decide +kernel
theorem d_Ck_accepts_4 : decode b_Ck_accepts 4 = .ok (.istore 6, 2) := by decide +kernel
theorem d_Ck_accepts_6 : decode b_Ck_accepts 6 = .ok (.iconst 0, 1) := by decide +kernel
theorem d_Ck_accepts_7 : decode b_Ck_accepts 7 = .ok (.istore 7, 2) := by decide +kernel
theorem d_Ck_accepts_9 : decode b_Ck_accepts 9 = .ok (.iload 7, 2) := by decide +kernel
theorem d_Ck_accepts_11 : decode b_Ck_accepts 11 = .ok (.iload 6, 2) := by decide +kernel
theorem d_Ck_accepts_13 : decode b_Ck_accepts 13 = .ok (.if_icmp .ge 38, 3) := by decide +kernel
theorem d_Ck_accepts_16 : decode b_Ck_accepts 16 = .ok (.aload_n 0, 1) := by decide +kernel
theorem d_Ck_accepts_17 : decode b_Ck_accepts 17 = .ok (.aload_n 1, 1) := by decide +kernel
theorem d_Ck_accepts_18 : decode b_Ck_accepts 18 = .ok (.iload 7, 2) := by decide +kernel
theorem d_Ck_accepts_20 : decode b_Ck_accepts 20 = .ok (.invokevirtual 28, 3) := by decide +kernel
theorem d_Ck_accepts_23 : decode b_Ck_accepts 23 = .ok (.aload_n 1, 1) := by decide +kernel
theorem d_Ck_accepts_24 : decode b_Ck_accepts 24 = .ok (.iload 7, 2) := by decide +kernel
theorem d_Ck_accepts_26 : decode b_Ck_accepts 26 = .ok (.invokevirtual 32, 3) := by decide +kernel
theorem d_Ck_accepts_29 : decode b_Ck_accepts 29 = .ok (.aload_n 1, 1) := by decide +kernel
theorem d_Ck_accepts_30 : decode b_Ck_accepts 30 = .ok (.iload 7, 2) := by decide +kernel
theorem d_Ck_accepts_32 : decode b_Ck_accepts 32 = .ok (.invokevirtual 35, 3) := by decide +kernel
theorem d_Ck_accepts_35 : decode b_Ck_accepts 35 = .ok (.iload 7, 2) := by decide +kernel
theorem d_Ck_accepts_37 : decode b_Ck_accepts 37 = .ok (.invokevirtual 38, 3) := by decide +kernel
theorem d_Ck_accepts_40 : decode b_Ck_accepts 40 = .ok (.ifCond .ne 5, 3) := by decide +kernel
theorem d_Ck_accepts_43 : decode b_Ck_accepts 43 = .ok (.iconst 0, 1) := by decide +kernel
theorem d_Ck_accepts_44 : decode b_Ck_accepts 44 = .ok (.ireturn, 1) := by decide +kernel
theorem d_Ck_accepts_45 : decode b_Ck_accepts 45 = .ok (.iinc 7 1, 3) := by decide +kernel
theorem d_Ck_accepts_48 : decode b_Ck_accepts 48 = .ok (.goto (-39), 3) := by decide +kernel
theorem d_Ck_accepts_51 : decode b_Ck_accepts 51 = .ok (.iload 6, 2) := by decide +kernel
theorem d_Ck_accepts_53 : decode b_Ck_accepts 53 = .ok (.ifCond .le 28, 3) := by decide +kernel
theorem d_Ck_accepts_56 : decode b_Ck_accepts 56 = .ok (.aload_n 0, 1) := by decide +kernel
theorem d_Ck_accepts_57 : decode b_Ck_accepts 57 = .ok (.getfield 11, 3) := by decide +kernel
theorem d_Ck_accepts_60 : decode b_Ck_accepts 60 = .ok (.iload 6, 2) := by decide +kernel
theorem d_Ck_accepts_62 : decode b_Ck_accepts 62 = .ok (.iconst 1, 1) := by decide +kernel
theorem d_Ck_accepts_63 : decode b_Ck_accepts 63 = .ok (.isub, 1) := by decide +kernel
theorem d_Ck_accepts_64 : decode b_Ck_accepts 64 = .ok (.aaload, 1) := by decide +kernel
theorem d_Ck_accepts_65 : decode b_Ck_accepts 65 = .ok (.iload_n 2, 1) := by decide +kernel
theorem d_Ck_accepts_66 : decode b_Ck_accepts 66 = .ok (.iload_n 3, 1) := by decide +kernel
theorem d_Ck_accepts_67 : decode b_Ck_accepts 67 = .ok (.iload 4, 2) := by decide +kernel
theorem d_Ck_accepts_69 : decode b_Ck_accepts 69 = .ok (.iload 5, 2) := by decide +kernel
theorem d_Ck_accepts_71 : decode b_Ck_accepts 71 = .ok (.invokevirtual 42, 3) := by decide +kernel
theorem d_Ck_accepts_74 : decode b_Ck_accepts 74 = .ok (.ifCond .eq 7, 3) := by decide +kernel
theorem d_Ck_accepts_77 : decode b_Ck_accepts 77 = .ok (.iconst 1, 1) := by decide +kernel
theorem d_Ck_accepts_78 : decode b_Ck_accepts 78 = .ok (.goto 4, 3) := by decide +kernel
theorem d_Ck_accepts_81 : decode b_Ck_accepts 81 = .ok (.iconst 0, 1) := by decide +kernel
theorem d_Ck_accepts_82 : decode b_Ck_accepts 82 = .ok (.ireturn, 1) := by decide +kernel
theorem d_Ck_follows_0 : decode b_Ck_follows 0 = .ok (.iload_n 1, 1) := by decide +kernel
theorem d_Ck_follows_1 : decode b_Ck_follows 1 = .ok (.iconst 1, 1) := by decide +kernel
theorem d_Ck_follows_2 : decode b_Ck_follows 2 = .ok (.if_icmp .ne 22, 3) := by decide +kernel
theorem d_Ck_follows_5 : decode b_Ck_follows 5 = .ok (.aload_n 0, 1) := by decide +kernel
theorem d_Ck_follows_6 : decode b_Ck_follows 6 = .ok (.getfield 17, 3) := by decide +kernel
theorem d_Ck_follows_9 : decode b_Ck_follows 9 = .ok (.iload_n 2, 1) := by decide +kernel
theorem d_Ck_follows_10 : decode b_Ck_follows 10 = .ok (.invokevirtual 45, 3) := by decide +kernel
theorem d_Ck_follows_13 : decode b_Ck_follows 13 = .ok (.aload_n 0, 1) := by decide +kernel
theorem d_Ck_follows_14 : decode b_Ck_follows 14 = .ok (.getfield 11, 3) := by decide +kernel
theorem d_Ck_follows_17 : decode b_Ck_follows 17 = .ok (.iload 4, 2) := by decide +kernel
theorem d_Ck_follows_19 : decode b_Ck_follows 19 = .ok (.aaload, 1) := by decide +kernel
theorem d_Ck_follows_20 : decode b_Ck_follows 20 = .ok (.invokestatic 51, 3) := by decide +kernel
theorem d_Ck_follows_23 : decode b_Ck_follows 23 = .ok (.ireturn, 1) := by decide +kernel
theorem d_Ck_follows_24 : decode b_Ck_follows 24 = .ok (.iload_n 3, 1) := by decide +kernel
theorem d_Ck_follows_25 : decode b_Ck_follows 25 = .ok (.ifCond .lt 9, 3) := by decide +kernel
theorem d_Ck_follows_28 : decode b_Ck_follows 28 = .ok (.iload_n 3, 1) := by decide +kernel
theorem d_Ck_follows_29 : decode b_Ck_follows 29 = .ok (.iload 4, 2) := by decide +kernel
theorem d_Ck_follows_31 : decode b_Ck_follows 31 = .ok (.if_icmp .lt 5, 3) := by decide +kernel
theorem d_Ck_follows_34 : decode b_Ck_follows 34 = .ok (.iconst 0, 1) := by decide +kernel
theorem d_Ck_follows_35 : decode b_Ck_follows 35 = .ok (.ireturn, 1) := by decide +kernel
theorem d_Ck_follows_36 : decode b_Ck_follows 36 = .ok (.iload_n 1, 1) := by decide +kernel
theorem d_Ck_follows_37 : decode b_Ck_follows 37 = .ok (.bipush 7, 2) := by decide +kernel
theorem d_Ck_follows_39 : decode b_Ck_follows 39 = .ok (.if_icmp .ne 28, 3) := by decide +kernel
theorem d_Ck_follows_42 : decode b_Ck_follows 42 = .ok (.aload_n 0, 1) := by decide +kernel
theorem d_Ck_follows_43 : decode b_Ck_follows 43 = .ok (.getfield 17, 3) := by decide +kernel
theorem d_Ck_follows_46 : decode b_Ck_follows 46 = .ok (.iload_n 2, 1) := by decide +kernel
theorem d_Ck_follows_47 : decode b_Ck_follows 47 = .ok (.invokevirtual 45, 3) := by decide +kernel
theorem d_Ck_follows_50 : decode b_Ck_follows 50 = .ok (.aload_n 0, 1) := by decide +kernel
theorem d_Ck_follows_51 : decode b_Ck_follows 51 = .ok (.getfield 11, 3) := by decide +kernel
theorem d_Ck_follows_54 : decode b_Ck_follows 54 = .ok (.iload_n 3, 1) := by decide +kernel
theorem d_Ck_follows_55 : decode b_Ck_follows 55 = .ok (.aaload, 1) := by decide +kernel
theorem d_Ck_follows_56 : decode b_Ck_follows 56 = .ok (.aload_n 0, 1) := by decide +kernel
theorem d_Ck_follows_57 : decode b_Ck_follows 57 = .ok (.getfield 11, 3) := by decide +kernel
theorem d_Ck_follows_60 : decode b_Ck_follows 60 = .ok (.iload 4, 2) := by decide +kernel
theorem d_Ck_follows_62 : decode b_Ck_follows 62 = .ok (.aaload, 1) := by decide +kernel
theorem d_Ck_follows_63 : decode b_Ck_follows 63 = .ok (.invokestatic 55, 3) := by decide +kernel
theorem d_Ck_follows_66 : decode b_Ck_follows 66 = .ok (.ireturn, 1) := by decide +kernel
theorem d_Ck_follows_67 : decode b_Ck_follows 67 = .ok (.iload_n 2, 1) := by decide +kernel
theorem d_Ck_follows_68 : decode b_Ck_follows 68 = .ok (.ifCond .lt 39, 3) := by decide +kernel
theorem d_Ck_follows_71 : decode b_Ck_follows 71 = .ok (.iload_n 2, 1) := by decide +kernel
theorem d_Ck_follows_72 : decode b_Ck_follows 72 = .ok (.iload 4, 2) := by decide +kernel
theorem d_Ck_follows_74 : decode b_Ck_follows 74 = .ok (.if_icmp .ge 33, 3) := by decide +kernel
theorem d_Ck_follows_77 : decode b_Ck_follows 77 = .ok (.iload_n 1, 1) := by decide +kernel
theorem d_Ck_follows_78 : decode b_Ck_follows 78 = .ok (.aload_n 0, 1) := by decide +kernel
theorem d_Ck_follows_79 : decode b_Ck_follows 79 = .ok (.getfield 11, 3) := by decide +kernel
theorem d_Ck_follows_82 : decode b_Ck_follows 82 = .ok (.iload_n 2, 1) := by decide +kernel
theorem d_Ck_follows_83 : decode b_Ck_follows 83 = .ok (.aaload, 1) := by decide +kernel
theorem d_Ck_follows_84 : decode b_Ck_follows 84 = .ok (.aload_n 0, 1) := by decide +kernel
theorem d_Ck_follows_85 : decode b_Ck_follows 85 = .ok (.getfield 11, 3) := by decide +kernel
theorem d_Ck_follows_88 : decode b_Ck_follows 88 = .ok (.iload_n 3, 1) := by decide +kernel
theorem d_Ck_follows_89 : decode b_Ck_follows 89 = .ok (.aaload, 1) := by decide +kernel
theorem d_Ck_follows_90 : decode b_Ck_follows 90 = .ok (.aload_n 0, 1) := by decide +kernel
theorem d_Ck_follows_91 : decode b_Ck_follows 91 = .ok (.getfield 11, 3) := by decide +kernel
theorem d_Ck_follows_94 : decode b_Ck_follows 94 = .ok (.iload 4, 2) := by decide +kernel
theorem d_Ck_follows_96 : decode b_Ck_follows 96 = .ok (.aaload, 1) := by decide +kernel
theorem d_Ck_follows_97 : decode b_Ck_follows 97 = .ok (.invokestatic 59, 3) := by decide +kernel
theorem d_Ck_follows_100 : decode b_Ck_follows 100 = .ok (.ifCond .eq 7, 3) := by decide +kernel
theorem d_Ck_follows_103 : decode b_Ck_follows 103 = .ok (.iconst 1, 1) := by decide +kernel
theorem d_Ck_follows_104 : decode b_Ck_follows 104 = .ok (.goto 4, 3) := by decide +kernel
theorem d_Ck_follows_107 : decode b_Ck_follows 107 = .ok (.iconst 0, 1) := by decide +kernel
theorem d_Ck_follows_108 : decode b_Ck_follows 108 = .ok (.ireturn, 1) := by decide +kernel
theorem d_Ck_isSaid_0 : decode b_Ck_isSaid 0 = .ok (.aload_n 0, 1) := by decide +kernel
theorem d_Ck_isSaid_1 : decode b_Ck_isSaid 1 = .ok (.ifnull 11, 3) := by decide +kernel
theorem d_Ck_isSaid_4 : decode b_Ck_isSaid 4 = .ok (.aload_n 0, 1) := by decide +kernel
theorem d_Ck_isSaid_5 : decode b_Ck_isSaid 5 = .ok (.getfield 63, 3) := by decide +kernel
theorem d_Ck_isSaid_8 : decode b_Ck_isSaid 8 = .ok (.iconst 3, 1) := by decide +kernel
theorem d_Ck_isSaid_9 : decode b_Ck_isSaid 9 = .ok (.if_icmp .ne 5, 3) := by decide +kernel
theorem d_Ck_isSaid_12 : decode b_Ck_isSaid 12 = .ok (.iconst 0, 1) := by decide +kernel
theorem d_Ck_isSaid_13 : decode b_Ck_isSaid 13 = .ok (.ireturn, 1) := by decide +kernel
theorem d_Ck_isSaid_14 : decode b_Ck_isSaid 14 = .ok (.aload_n 1, 1) := by decide +kernel
theorem d_Ck_isSaid_15 : decode b_Ck_isSaid 15 = .ok (.aload_n 0, 1) := by decide +kernel
theorem d_Ck_isSaid_16 : decode b_Ck_isSaid 16 = .ok (.invokevirtual 69, 3) := by decide +kernel
theorem d_Ck_isSaid_19 : decode b_Ck_isSaid 19 = .ok (.iconst 1, 1) := by decide +kernel
theorem d_Ck_isSaid_20 : decode b_Ck_isSaid 20 = .ok (.ireturn, 1) := by decide +kernel
theorem d_Ck_isImplied_0 : decode b_Ck_isImplied 0 = .ok (.aload_n 0, 1) := by decide +kernel
theorem d_Ck_isImplied_1 : decode b_Ck_isImplied 1 = .ok (.ifnull 18, 3) := by decide +kernel
theorem d_Ck_isImplied_4 : decode b_Ck_isImplied 4 = .ok (.aload_n 0, 1) := by decide +kernel
theorem d_Ck_isImplied_5 : decode b_Ck_isImplied 5 = .ok (.getfield 63, 3) := by decide +kernel
theorem d_Ck_isImplied_8 : decode b_Ck_isImplied 8 = .ok (.iconst 3, 1) := by decide +kernel
theorem d_Ck_isImplied_9 : decode b_Ck_isImplied 9 = .ok (.if_icmp .ne 10, 3) := by decide +kernel
theorem d_Ck_isImplied_12 : decode b_Ck_isImplied 12 = .ok (.aload_n 1, 1) := by decide +kernel
theorem d_Ck_isImplied_13 : decode b_Ck_isImplied 13 = .ok (.getfield 73, 3) := by decide +kernel
theorem d_Ck_isImplied_16 : decode b_Ck_isImplied 16 = .ok (.ifCond .eq 5, 3) := by decide +kernel
theorem d_Ck_isImplied_19 : decode b_Ck_isImplied 19 = .ok (.iconst 0, 1) := by decide +kernel
theorem d_Ck_isImplied_20 : decode b_Ck_isImplied 20 = .ok (.ireturn, 1) := by decide +kernel
theorem d_Ck_isImplied_21 : decode b_Ck_isImplied 21 = .ok (.aload_n 1, 1) := by decide +kernel
theorem d_Ck_isImplied_22 : decode b_Ck_isImplied 22 = .ok (.getfield 74, 3) := by decide +kernel
theorem d_Ck_isImplied_25 : decode b_Ck_isImplied 25 = .ok (.aload_n 0, 1) := by decide +kernel
theorem d_Ck_isImplied_26 : decode b_Ck_isImplied 26 = .ok (.getfield 77, 3) := by decide +kernel
theorem d_Ck_isImplied_29 : decode b_Ck_isImplied 29 = .ok (.if_icmp .ne 16, 3) := by decide +kernel
theorem d_Ck_isImplied_32 : decode b_Ck_isImplied 32 = .ok (.aload_n 1, 1) := by decide +kernel
theorem d_Ck_isImplied_33 : decode b_Ck_isImplied 33 = .ok (.getfield 80, 3) := by decide +kernel
theorem d_Ck_isImplied_36 : decode b_Ck_isImplied 36 = .ok (.aload_n 0, 1) := by decide +kernel
theorem d_Ck_isImplied_37 : decode b_Ck_isImplied 37 = .ok (.getfield 83, 3) := by decide +kernel
theorem d_Ck_isImplied_40 : decode b_Ck_isImplied 40 = .ok (.iconst 0, 1) := by decide +kernel
theorem d_Ck_isImplied_41 : decode b_Ck_isImplied 41 = .ok (.iaload, 1) := by decide +kernel
theorem d_Ck_isImplied_42 : decode b_Ck_isImplied 42 = .ok (.if_icmp .eq 5, 3) := by decide +kernel
theorem d_Ck_isImplied_45 : decode b_Ck_isImplied 45 = .ok (.iconst 0, 1) := by decide +kernel
theorem d_Ck_isImplied_46 : decode b_Ck_isImplied 46 = .ok (.ireturn, 1) := by decide +kernel
theorem d_Ck_isImplied_47 : decode b_Ck_isImplied 47 = .ok (.aload_n 2, 1) := by decide +kernel
theorem d_Ck_isImplied_48 : decode b_Ck_isImplied 48 = .ok (.aload_n 1, 1) := by decide +kernel
theorem d_Ck_isImplied_49 : decode b_Ck_isImplied 49 = .ok (.invokevirtual 87, 3) := by decide +kernel
theorem d_Ck_isImplied_52 : decode b_Ck_isImplied 52 = .ok (.aload_n 2, 1) := by decide +kernel
theorem d_Ck_isImplied_53 : decode b_Ck_isImplied 53 = .ok (.aload_n 0, 1) := by decide +kernel
theorem d_Ck_isImplied_54 : decode b_Ck_isImplied 54 = .ok (.getfield 83, 3) := by decide +kernel
theorem d_Ck_isImplied_57 : decode b_Ck_isImplied 57 = .ok (.iconst 1, 1) := by decide +kernel
theorem d_Ck_isImplied_58 : decode b_Ck_isImplied 58 = .ok (.iaload, 1) := by decide +kernel
theorem d_Ck_isImplied_59 : decode b_Ck_isImplied 59 = .ok (.putfield 80, 3) := by decide +kernel
theorem d_Ck_isImplied_62 : decode b_Ck_isImplied 62 = .ok (.iconst 1, 1) := by decide +kernel
theorem d_Ck_isImplied_63 : decode b_Ck_isImplied 63 = .ok (.ireturn, 1) := by decide +kernel
theorem d_Ck_isJoined_0 : decode b_Ck_isJoined 0 = .ok (.iload_n 0, 1) := by decide +kernel
theorem d_Ck_isJoined_1 : decode b_Ck_isJoined 1 = .ok (.tableswitch 196 2 6 #[35, 65, 103, 134, 165], 35) := by decide +kernel
theorem d_Ck_isJoined_36 : decode b_Ck_isJoined 36 = .ok (.aload_n 1, 1) := by decide +kernel
theorem d_Ck_isJoined_37 : decode b_Ck_isJoined 37 = .ok (.getfield 73, 3) := by decide +kernel
theorem d_Ck_isJoined_40 : decode b_Ck_isJoined 40 = .ok (.iconst 1, 1) := by decide +kernel
theorem d_Ck_isJoined_41 : decode b_Ck_isJoined 41 = .ok (.if_icmp .ne 23, 3) := by decide +kernel
theorem d_Ck_isJoined_44 : decode b_Ck_isJoined 44 = .ok (.aload_n 2, 1) := by decide +kernel
theorem d_Ck_isJoined_45 : decode b_Ck_isJoined 45 = .ok (.getfield 73, 3) := by decide +kernel
theorem d_Ck_isJoined_48 : decode b_Ck_isJoined 48 = .ok (.ifCond .ne 16, 3) := by decide +kernel
theorem d_Ck_isJoined_51 : decode b_Ck_isJoined 51 = .ok (.aload_n 1, 1) := by decide +kernel
theorem d_Ck_isJoined_52 : decode b_Ck_isJoined 52 = .ok (.aload_n 2, 1) := by decide +kernel
theorem d_Ck_isJoined_53 : decode b_Ck_isJoined 53 = .ok (.aload_n 3, 1) := by decide +kernel
theorem d_Ck_isJoined_54 : decode b_Ck_isJoined 54 = .ok (.invokestatic 91, 3) := by decide +kernel
theorem d_Ck_isJoined_57 : decode b_Ck_isJoined 57 = .ok (.ifCond .eq 7, 3) := by decide +kernel
theorem d_Ck_isJoined_60 : decode b_Ck_isJoined 60 = .ok (.iconst 1, 1) := by decide +kernel
theorem d_Ck_isJoined_61 : decode b_Ck_isJoined 61 = .ok (.goto 4, 3) := by decide +kernel
theorem d_Ck_isJoined_64 : decode b_Ck_isJoined 64 = .ok (.iconst 0, 1) := by decide +kernel
theorem d_Ck_isJoined_65 : decode b_Ck_isJoined 65 = .ok (.ireturn, 1) := by decide +kernel
theorem d_Ck_isJoined_66 : decode b_Ck_isJoined 66 = .ok (.aload_n 1, 1) := by decide +kernel
theorem d_Ck_isJoined_67 : decode b_Ck_isJoined 67 = .ok (.getfield 73, 3) := by decide +kernel
theorem d_Ck_isJoined_70 : decode b_Ck_isJoined 70 = .ok (.iconst 2, 1) := by decide +kernel
theorem d_Ck_isJoined_71 : decode b_Ck_isJoined 71 = .ok (.if_icmp .ne 31, 3) := by decide +kernel
theorem d_Ck_isJoined_74 : decode b_Ck_isJoined 74 = .ok (.aload_n 2, 1) := by decide +kernel
theorem d_Ck_isJoined_75 : decode b_Ck_isJoined 75 = .ok (.getfield 73, 3) := by decide +kernel
theorem d_Ck_isJoined_78 : decode b_Ck_isJoined 78 = .ok (.ifCond .ne 24, 3) := by decide +kernel
theorem d_Ck_isJoined_81 : decode b_Ck_isJoined 81 = .ok (.aload_n 1, 1) := by decide +kernel
theorem d_Ck_isJoined_82 : decode b_Ck_isJoined 82 = .ok (.aload_n 2, 1) := by decide +kernel
theorem d_Ck_isJoined_83 : decode b_Ck_isJoined 83 = .ok (.invokevirtual 95, 3) := by decide +kernel
theorem d_Ck_isJoined_86 : decode b_Ck_isJoined 86 = .ok (.ifCond .eq 16, 3) := by decide +kernel
theorem d_Ck_isJoined_89 : decode b_Ck_isJoined 89 = .ok (.aload_n 1, 1) := by decide +kernel
theorem d_Ck_isJoined_90 : decode b_Ck_isJoined 90 = .ok (.aload_n 2, 1) := by decide +kernel
theorem d_Ck_isJoined_91 : decode b_Ck_isJoined 91 = .ok (.aload_n 3, 1) := by decide +kernel
theorem d_Ck_isJoined_92 : decode b_Ck_isJoined 92 = .ok (.invokestatic 91, 3) := by decide +kernel
theorem d_Ck_isJoined_95 : decode b_Ck_isJoined 95 = .ok (.ifCond .eq 7, 3) := by decide +kernel
theorem d_Ck_isJoined_98 : decode b_Ck_isJoined 98 = .ok (.iconst 1, 1) := by decide +kernel
theorem d_Ck_isJoined_99 : decode b_Ck_isJoined 99 = .ok (.goto 4, 3) := by decide +kernel
theorem d_Ck_isJoined_102 : decode b_Ck_isJoined 102 = .ok (.iconst 0, 1) := by decide +kernel
theorem d_Ck_isJoined_103 : decode b_Ck_isJoined 103 = .ok (.ireturn, 1) := by decide +kernel
theorem d_Ck_isJoined_104 : decode b_Ck_isJoined 104 = .ok (.aload_n 1, 1) := by decide +kernel
theorem d_Ck_isJoined_105 : decode b_Ck_isJoined 105 = .ok (.getfield 73, 3) := by decide +kernel
theorem d_Ck_isJoined_108 : decode b_Ck_isJoined 108 = .ok (.iconst 2, 1) := by decide +kernel
theorem d_Ck_isJoined_109 : decode b_Ck_isJoined 109 = .ok (.if_icmp .ne 24, 3) := by decide +kernel
theorem d_Ck_isJoined_112 : decode b_Ck_isJoined 112 = .ok (.aload_n 2, 1) := by decide +kernel
theorem d_Ck_isJoined_113 : decode b_Ck_isJoined 113 = .ok (.getfield 73, 3) := by decide +kernel
theorem d_Ck_isJoined_116 : decode b_Ck_isJoined 116 = .ok (.iconst 2, 1) := by decide +kernel
theorem d_Ck_isJoined_117 : decode b_Ck_isJoined 117 = .ok (.if_icmp .ne 16, 3) := by decide +kernel
theorem d_Ck_isJoined_120 : decode b_Ck_isJoined 120 = .ok (.aload_n 1, 1) := by decide +kernel
theorem d_Ck_isJoined_121 : decode b_Ck_isJoined 121 = .ok (.aload_n 2, 1) := by decide +kernel
theorem d_Ck_isJoined_122 : decode b_Ck_isJoined 122 = .ok (.aload_n 3, 1) := by decide +kernel
theorem d_Ck_isJoined_123 : decode b_Ck_isJoined 123 = .ok (.invokestatic 99, 3) := by decide +kernel
theorem d_Ck_isJoined_126 : decode b_Ck_isJoined 126 = .ok (.ifCond .eq 7, 3) := by decide +kernel
theorem d_Ck_isJoined_129 : decode b_Ck_isJoined 129 = .ok (.iconst 1, 1) := by decide +kernel
theorem d_Ck_isJoined_130 : decode b_Ck_isJoined 130 = .ok (.goto 4, 3) := by decide +kernel
theorem d_Ck_isJoined_133 : decode b_Ck_isJoined 133 = .ok (.iconst 0, 1) := by decide +kernel
theorem d_Ck_isJoined_134 : decode b_Ck_isJoined 134 = .ok (.ireturn, 1) := by decide +kernel
theorem d_Ck_isJoined_135 : decode b_Ck_isJoined 135 = .ok (.aload_n 1, 1) := by decide +kernel
theorem d_Ck_isJoined_136 : decode b_Ck_isJoined 136 = .ok (.getfield 73, 3) := by decide +kernel
theorem d_Ck_isJoined_139 : decode b_Ck_isJoined 139 = .ok (.iconst 1, 1) := by decide +kernel
theorem d_Ck_isJoined_140 : decode b_Ck_isJoined 140 = .ok (.if_icmp .ne 24, 3) := by decide +kernel
theorem d_Ck_isJoined_143 : decode b_Ck_isJoined 143 = .ok (.aload_n 2, 1) := by decide +kernel
theorem d_Ck_isJoined_144 : decode b_Ck_isJoined 144 = .ok (.getfield 73, 3) := by decide +kernel
theorem d_Ck_isJoined_147 : decode b_Ck_isJoined 147 = .ok (.iconst 2, 1) := by decide +kernel
theorem d_Ck_isJoined_148 : decode b_Ck_isJoined 148 = .ok (.if_icmp .ne 16, 3) := by decide +kernel
theorem d_Ck_isJoined_151 : decode b_Ck_isJoined 151 = .ok (.aload_n 1, 1) := by decide +kernel
theorem d_Ck_isJoined_152 : decode b_Ck_isJoined 152 = .ok (.aload_n 2, 1) := by decide +kernel
theorem d_Ck_isJoined_153 : decode b_Ck_isJoined 153 = .ok (.aload_n 3, 1) := by decide +kernel
theorem d_Ck_isJoined_154 : decode b_Ck_isJoined 154 = .ok (.invokestatic 91, 3) := by decide +kernel
theorem d_Ck_isJoined_157 : decode b_Ck_isJoined 157 = .ok (.ifCond .eq 7, 3) := by decide +kernel
theorem d_Ck_isJoined_160 : decode b_Ck_isJoined 160 = .ok (.iconst 1, 1) := by decide +kernel
theorem d_Ck_isJoined_161 : decode b_Ck_isJoined 161 = .ok (.goto 4, 3) := by decide +kernel
theorem d_Ck_isJoined_164 : decode b_Ck_isJoined 164 = .ok (.iconst 0, 1) := by decide +kernel
theorem d_Ck_isJoined_165 : decode b_Ck_isJoined 165 = .ok (.ireturn, 1) := by decide +kernel
theorem d_Ck_isJoined_166 : decode b_Ck_isJoined 166 = .ok (.aload_n 1, 1) := by decide +kernel
theorem d_Ck_isJoined_167 : decode b_Ck_isJoined 167 = .ok (.getfield 73, 3) := by decide +kernel
theorem d_Ck_isJoined_170 : decode b_Ck_isJoined 170 = .ok (.iconst 1, 1) := by decide +kernel
theorem d_Ck_isJoined_171 : decode b_Ck_isJoined 171 = .ok (.if_icmp .ne 24, 3) := by decide +kernel
theorem d_Ck_isJoined_174 : decode b_Ck_isJoined 174 = .ok (.aload_n 2, 1) := by decide +kernel
theorem d_Ck_isJoined_175 : decode b_Ck_isJoined 175 = .ok (.getfield 73, 3) := by decide +kernel
theorem d_Ck_isJoined_178 : decode b_Ck_isJoined 178 = .ok (.iconst 1, 1) := by decide +kernel
theorem d_Ck_isJoined_179 : decode b_Ck_isJoined 179 = .ok (.if_icmp .ne 16, 3) := by decide +kernel
theorem d_Ck_isJoined_182 : decode b_Ck_isJoined 182 = .ok (.aload_n 2, 1) := by decide +kernel
theorem d_Ck_isJoined_183 : decode b_Ck_isJoined 183 = .ok (.aload_n 1, 1) := by decide +kernel
theorem d_Ck_isJoined_184 : decode b_Ck_isJoined 184 = .ok (.aload_n 3, 1) := by decide +kernel
theorem d_Ck_isJoined_185 : decode b_Ck_isJoined 185 = .ok (.invokestatic 91, 3) := by decide +kernel
theorem d_Ck_isJoined_188 : decode b_Ck_isJoined 188 = .ok (.ifCond .eq 7, 3) := by decide +kernel
theorem d_Ck_isJoined_191 : decode b_Ck_isJoined 191 = .ok (.iconst 1, 1) := by decide +kernel
theorem d_Ck_isJoined_192 : decode b_Ck_isJoined 192 = .ok (.goto 4, 3) := by decide +kernel
theorem d_Ck_isJoined_195 : decode b_Ck_isJoined 195 = .ok (.iconst 0, 1) := by decide +kernel
theorem d_Ck_isJoined_196 : decode b_Ck_isJoined 196 = .ok (.ireturn, 1) := by decide +kernel
theorem d_Ck_isJoined_197 : decode b_Ck_isJoined 197 = .ok (.iconst 0, 1) := by decide +kernel
theorem d_Ck_isJoined_198 : decode b_Ck_isJoined 198 = .ok (.ireturn, 1) := by decide +kernel
theorem d_Ck_isTrustedDeeper_0 : decode b_Ck_isTrustedDeeper 0 = .ok (.aload_n 0, 1) := by decide +kernel
theorem d_Ck_isTrustedDeeper_1 : decode b_Ck_isTrustedDeeper 1 = .ok (.getfield 102, 3) := by decide +kernel
theorem d_Ck_isTrustedDeeper_4 : decode b_Ck_isTrustedDeeper 4 = .ok (.ifCond .le 20, 3) := by decide +kernel
theorem d_Ck_isTrustedDeeper_7 : decode b_Ck_isTrustedDeeper 7 = .ok (.aload_n 0, 1) := by decide +kernel
theorem d_Ck_isTrustedDeeper_8 : decode b_Ck_isTrustedDeeper 8 = .ok (.aload_n 1, 1) := by decide +kernel
theorem d_Ck_isTrustedDeeper_9 : decode b_Ck_isTrustedDeeper 9 = .ok (.invokevirtual 95, 3) := by decide +kernel
theorem d_Ck_isTrustedDeeper_12 : decode b_Ck_isTrustedDeeper 12 = .ok (.ifCond .eq 12, 3) := by decide +kernel
theorem d_Ck_isTrustedDeeper_15 : decode b_Ck_isTrustedDeeper 15 = .ok (.aload_n 0, 1) := by decide +kernel
theorem d_Ck_isTrustedDeeper_16 : decode b_Ck_isTrustedDeeper 16 = .ok (.aload_n 1, 1) := by decide +kernel
theorem d_Ck_isTrustedDeeper_17 : decode b_Ck_isTrustedDeeper 17 = .ok (.aload_n 2, 1) := by decide +kernel
theorem d_Ck_isTrustedDeeper_18 : decode b_Ck_isTrustedDeeper 18 = .ok (.invokestatic 91, 3) := by decide +kernel
theorem d_Ck_isTrustedDeeper_21 : decode b_Ck_isTrustedDeeper 21 = .ok (.ifCond .ne 5, 3) := by decide +kernel
theorem d_Ck_isTrustedDeeper_24 : decode b_Ck_isTrustedDeeper 24 = .ok (.iconst 0, 1) := by decide +kernel
theorem d_Ck_isTrustedDeeper_25 : decode b_Ck_isTrustedDeeper 25 = .ok (.ireturn, 1) := by decide +kernel
theorem d_Ck_isTrustedDeeper_26 : decode b_Ck_isTrustedDeeper 26 = .ok (.aload_n 2, 1) := by decide +kernel
theorem d_Ck_isTrustedDeeper_27 : decode b_Ck_isTrustedDeeper 27 = .ok (.aload_n 0, 1) := by decide +kernel
theorem d_Ck_isTrustedDeeper_28 : decode b_Ck_isTrustedDeeper 28 = .ok (.getfield 102, 3) := by decide +kernel
theorem d_Ck_isTrustedDeeper_31 : decode b_Ck_isTrustedDeeper 31 = .ok (.iconst 1, 1) := by decide +kernel
theorem d_Ck_isTrustedDeeper_32 : decode b_Ck_isTrustedDeeper 32 = .ok (.isub, 1) := by decide +kernel
theorem d_Ck_isTrustedDeeper_33 : decode b_Ck_isTrustedDeeper 33 = .ok (.aload_n 1, 1) := by decide +kernel
theorem d_Ck_isTrustedDeeper_34 : decode b_Ck_isTrustedDeeper 34 = .ok (.getfield 102, 3) := by decide +kernel
theorem d_Ck_isTrustedDeeper_37 : decode b_Ck_isTrustedDeeper 37 = .ok (.invokestatic 105, 3) := by decide +kernel
theorem d_Ck_isTrustedDeeper_40 : decode b_Ck_isTrustedDeeper 40 = .ok (.putfield 102, 3) := by decide +kernel
theorem d_Ck_isTrustedDeeper_43 : decode b_Ck_isTrustedDeeper 43 = .ok (.iconst 1, 1) := by decide +kernel
theorem d_Ck_isTrustedDeeper_44 : decode b_Ck_isTrustedDeeper 44 = .ok (.ireturn, 1) := by decide +kernel
theorem d_Ck_isHandedOn_0 : decode b_Ck_isHandedOn 0 = .ok (.aload_n 0, 1) := by decide +kernel
theorem d_Ck_isHandedOn_1 : decode b_Ck_isHandedOn 1 = .ok (.getfield 111, 3) := by decide +kernel
theorem d_Ck_isHandedOn_4 : decode b_Ck_isHandedOn 4 = .ok (.aload_n 1, 1) := by decide +kernel
theorem d_Ck_isHandedOn_5 : decode b_Ck_isHandedOn 5 = .ok (.getfield 74, 3) := by decide +kernel
theorem d_Ck_isHandedOn_8 : decode b_Ck_isHandedOn 8 = .ok (.if_icmp .eq 5, 3) := by decide +kernel
theorem d_Ck_isHandedOn_11 : decode b_Ck_isHandedOn 11 = .ok (.iconst 0, 1) := by decide +kernel
theorem d_Ck_isHandedOn_12 : decode b_Ck_isHandedOn 12 = .ok (.ireturn, 1) := by decide +kernel
theorem d_Ck_isHandedOn_13 : decode b_Ck_isHandedOn 13 = .ok (.aload_n 2, 1) := by decide +kernel
theorem d_Ck_isHandedOn_14 : decode b_Ck_isHandedOn 14 = .ok (.aload_n 1, 1) := by decide +kernel
theorem d_Ck_isHandedOn_15 : decode b_Ck_isHandedOn 15 = .ok (.invokevirtual 87, 3) := by decide +kernel
theorem d_Ck_isHandedOn_18 : decode b_Ck_isHandedOn 18 = .ok (.aload_n 2, 1) := by decide +kernel
theorem d_Ck_isHandedOn_19 : decode b_Ck_isHandedOn 19 = .ok (.aload_n 0, 1) := by decide +kernel
theorem d_Ck_isHandedOn_20 : decode b_Ck_isHandedOn 20 = .ok (.getfield 74, 3) := by decide +kernel
theorem d_Ck_isHandedOn_23 : decode b_Ck_isHandedOn 23 = .ok (.putfield 74, 3) := by decide +kernel
theorem d_Ck_isHandedOn_26 : decode b_Ck_isHandedOn 26 = .ok (.iconst 1, 1) := by decide +kernel
theorem d_Ck_isHandedOn_27 : decode b_Ck_isHandedOn 27 = .ok (.ireturn, 1) := by decide +kernel
theorem d_Cr_init_0 : decode b_Cr_init 0 = .ok (.aload_n 0, 1) := by decide +kernel
theorem d_Cr_init_1 : decode b_Cr_init 1 = .ok (.invokespecial 3, 3) := by decide +kernel
theorem d_Cr_init_4 : decode b_Cr_init 4 = .ok (.aload_n 0, 1) := by decide +kernel
theorem d_Cr_init_5 : decode b_Cr_init 5 = .ok (.iconst 4, 1) := by decide +kernel
theorem d_Cr_init_6 : decode b_Cr_init 6 = .ok (.newarray .int, 2) := by decide +kernel
theorem d_Cr_init_8 : decode b_Cr_init 8 = .ok (.putfield 11, 3) := by decide +kernel
theorem d_Cr_init_11 : decode b_Cr_init 11 = .ok (.aload_n 0, 1) := by decide +kernel
theorem d_Cr_init_12 : decode b_Cr_init 12 = .ok (.iload_n 1, 1) := by decide +kernel
theorem d_Cr_init_13 : decode b_Cr_init 13 = .ok (.putfield 15, 3) := by decide +kernel
theorem d_Cr_init_16 : decode b_Cr_init 16 = .ok (.aload_n 0, 1) := by decide +kernel
theorem d_Cr_init_17 : decode b_Cr_init 17 = .ok (.iload_n 2, 1) := by decide +kernel
theorem d_Cr_init_18 : decode b_Cr_init 18 = .ok (.putfield 19, 3) := by decide +kernel
theorem d_Cr_init_21 : decode b_Cr_init 21 = .ok (.aload_n 0, 1) := by decide +kernel
theorem d_Cr_init_22 : decode b_Cr_init 22 = .ok (.iload 4, 2) := by decide +kernel
theorem d_Cr_init_24 : decode b_Cr_init 24 = .ok (.putfield 22, 3) := by decide +kernel
theorem d_Cr_init_27 : decode b_Cr_init 27 = .ok (.aload_n 0, 1) := by decide +kernel
theorem d_Cr_init_28 : decode b_Cr_init 28 = .ok (.iload 5, 2) := by decide +kernel
theorem d_Cr_init_30 : decode b_Cr_init 30 = .ok (.putfield 25, 3) := by decide +kernel
theorem d_Cr_init_33 : decode b_Cr_init 33 = .ok (.iconst 0, 1) := by decide +kernel
theorem d_Cr_init_34 : decode b_Cr_init 34 = .ok (.istore 6, 2) := by decide +kernel
theorem d_Cr_init_36 : decode b_Cr_init 36 = .ok (.iload 6, 2) := by decide +kernel
theorem d_Cr_init_38 : decode b_Cr_init 38 = .ok (.iconst 4, 1) := by decide +kernel
theorem d_Cr_init_39 : decode b_Cr_init 39 = .ok (.if_icmp .ge 40, 3) := by decide +kernel
theorem d_Cr_init_42 : decode b_Cr_init 42 = .ok (.aload_n 0, 1) := by decide +kernel
theorem d_Cr_init_43 : decode b_Cr_init 43 = .ok (.getfield 11, 3) := by decide +kernel
theorem d_Cr_init_46 : decode b_Cr_init 46 = .ok (.iload 6, 2) := by decide +kernel
theorem d_Cr_init_48 : decode b_Cr_init 48 = .ok (.iload_n 2, 1) := by decide +kernel
theorem d_Cr_init_49 : decode b_Cr_init 49 = .ok (.invokestatic 28, 3) := by decide +kernel
theorem d_Cr_init_52 : decode b_Cr_init 52 = .ok (.ifCond .eq 12, 3) := by decide +kernel
theorem d_Cr_init_55 : decode b_Cr_init 55 = .ok (.iload_n 2, 1) := by decide +kernel
theorem d_Cr_init_56 : decode b_Cr_init 56 = .ok (.iload 6, 2) := by decide +kernel
theorem d_Cr_init_58 : decode b_Cr_init 58 = .ok (.invokestatic 32, 3) := by decide +kernel
theorem d_Cr_init_61 : decode b_Cr_init 61 = .ok (.ifCond .le 10, 3) := by decide +kernel
theorem d_Cr_init_64 : decode b_Cr_init 64 = .ok (.aload_n 3, 1) := by decide +kernel
theorem d_Cr_init_65 : decode b_Cr_init 65 = .ok (.iload 6, 2) := by decide +kernel
theorem d_Cr_init_67 : decode b_Cr_init 67 = .ok (.iaload, 1) := by decide +kernel
theorem d_Cr_init_68 : decode b_Cr_init 68 = .ok (.goto 4, 3) := by decide +kernel
theorem d_Cr_init_71 : decode b_Cr_init 71 = .ok (.iconst 0, 1) := by decide +kernel
theorem d_Cr_init_72 : decode b_Cr_init 72 = .ok (.iastore, 1) := by decide +kernel
theorem d_Cr_init_73 : decode b_Cr_init 73 = .ok (.iinc 6 1, 3) := by decide +kernel
theorem d_Cr_init_76 : decode b_Cr_init 76 = .ok (.goto (-40), 3) := by decide +kernel
theorem d_Cr_init_79 : decode b_Cr_init 79 = .ok (.return_, 1) := by decide +kernel
theorem d_Cr_isKind_0 : decode b_Cr_isKind 0 = .ok (.iload_n 0, 1) := by decide +kernel
theorem d_Cr_isKind_1 : decode b_Cr_isKind 1 = .ok (.ifCond .lt 12, 3) := by decide +kernel
theorem d_Cr_isKind_4 : decode b_Cr_isKind 4 = .ok (.iload_n 0, 1) := by decide +kernel
theorem d_Cr_isKind_5 : decode b_Cr_isKind 5 = .ok (.iconst 4, 1) := by decide +kernel
theorem d_Cr_isKind_6 : decode b_Cr_isKind 6 = .ok (.if_icmp .ge 7, 3) := by decide +kernel
theorem d_Cr_isKind_9 : decode b_Cr_isKind 9 = .ok (.iconst 1, 1) := by decide +kernel
theorem d_Cr_isKind_10 : decode b_Cr_isKind 10 = .ok (.goto 4, 3) := by decide +kernel
theorem d_Cr_isKind_13 : decode b_Cr_isKind 13 = .ok (.iconst 0, 1) := by decide +kernel
theorem d_Cr_isKind_14 : decode b_Cr_isKind 14 = .ok (.ireturn, 1) := by decide +kernel
theorem d_Cr_limit_0 : decode b_Cr_limit 0 = .ok (.getstatic 36, 3) := by decide +kernel
theorem d_Cr_limit_3 : decode b_Cr_limit 3 = .ok (.iconst 4, 1) := by decide +kernel
theorem d_Cr_limit_4 : decode b_Cr_limit 4 = .ok (.iload_n 0, 1) := by decide +kernel
theorem d_Cr_limit_5 : decode b_Cr_limit 5 = .ok (.imul, 1) := by decide +kernel
theorem d_Cr_limit_6 : decode b_Cr_limit 6 = .ok (.iload_n 1, 1) := by decide +kernel
theorem d_Cr_limit_7 : decode b_Cr_limit 7 = .ok (.iadd, 1) := by decide +kernel
theorem d_Cr_limit_8 : decode b_Cr_limit 8 = .ok (.iaload, 1) := by decide +kernel
theorem d_Cr_limit_9 : decode b_Cr_limit 9 = .ok (.ireturn, 1) := by decide +kernel
theorem d_Cr_isWellFormed_0 : decode b_Cr_isWellFormed 0 = .ok (.aload_n 0, 1) := by decide +kernel
theorem d_Cr_isWellFormed_1 : decode b_Cr_isWellFormed 1 = .ok (.getfield 15, 3) := by decide +kernel
theorem d_Cr_isWellFormed_4 : decode b_Cr_isWellFormed 4 = .ok (.invokestatic 39, 3) := by decide +kernel
theorem d_Cr_isWellFormed_7 : decode b_Cr_isWellFormed 7 = .ok (.ifCond .eq 13, 3) := by decide +kernel
theorem d_Cr_isWellFormed_10 : decode b_Cr_isWellFormed 10 = .ok (.aload_n 0, 1) := by decide +kernel
theorem d_Cr_isWellFormed_11 : decode b_Cr_isWellFormed 11 = .ok (.getfield 19, 3) := by decide +kernel
theorem d_Cr_isWellFormed_14 : decode b_Cr_isWellFormed 14 = .ok (.invokestatic 28, 3) := by decide +kernel
theorem d_Cr_isWellFormed_17 : decode b_Cr_isWellFormed 17 = .ok (.ifCond .ne 5, 3) := by decide +kernel
theorem d_Cr_isWellFormed_20 : decode b_Cr_isWellFormed 20 = .ok (.iconst 0, 1) := by decide +kernel
theorem d_Cr_isWellFormed_21 : decode b_Cr_isWellFormed 21 = .ok (.ireturn, 1) := by decide +kernel
theorem d_Cr_isWellFormed_22 : decode b_Cr_isWellFormed 22 = .ok (.iconst 0, 1) := by decide +kernel
theorem d_Cr_isWellFormed_23 : decode b_Cr_isWellFormed 23 = .ok (.istore_n 1, 1) := by decide +kernel
theorem d_Cr_isWellFormed_24 : decode b_Cr_isWellFormed 24 = .ok (.iload_n 1, 1) := by decide +kernel
theorem d_Cr_isWellFormed_25 : decode b_Cr_isWellFormed 25 = .ok (.iconst 4, 1) := by decide +kernel
theorem d_Cr_isWellFormed_26 : decode b_Cr_isWellFormed 26 = .ok (.if_icmp .ge 43, 3) := by decide +kernel
theorem d_Cr_isWellFormed_29 : decode b_Cr_isWellFormed 29 = .ok (.aload_n 0, 1) := by decide +kernel
theorem d_Cr_isWellFormed_30 : decode b_Cr_isWellFormed 30 = .ok (.getfield 19, 3) := by decide +kernel
theorem d_Cr_isWellFormed_33 : decode b_Cr_isWellFormed 33 = .ok (.iload_n 1, 1) := by decide +kernel
theorem d_Cr_isWellFormed_34 : decode b_Cr_isWellFormed 34 = .ok (.invokestatic 32, 3) := by decide +kernel
theorem d_Cr_isWellFormed_37 : decode b_Cr_isWellFormed 37 = .ok (.istore_n 2, 1) := by decide +kernel
theorem d_Cr_isWellFormed_38 : decode b_Cr_isWellFormed 38 = .ok (.iload_n 2, 1) := by decide +kernel
theorem d_Cr_isWellFormed_39 : decode b_Cr_isWellFormed 39 = .ok (.ifCond .le 24, 3) := by decide +kernel
theorem d_Cr_isWellFormed_42 : decode b_Cr_isWellFormed 42 = .ok (.aload_n 0, 1) := by decide +kernel
theorem d_Cr_isWellFormed_43 : decode b_Cr_isWellFormed 43 = .ok (.getfield 11, 3) := by decide +kernel
theorem d_Cr_isWellFormed_46 : decode b_Cr_isWellFormed 46 = .ok (.iload_n 1, 1) := by decide +kernel
theorem d_Cr_isWellFormed_47 : decode b_Cr_isWellFormed 47 = .ok (.iaload, 1) := by decide +kernel
theorem d_Cr_isWellFormed_48 : decode b_Cr_isWellFormed 48 = .ok (.ifCond .lt 13, 3) := by decide +kernel
theorem d_Cr_isWellFormed_51 : decode b_Cr_isWellFormed 51 = .ok (.aload_n 0, 1) := by decide +kernel
theorem d_Cr_isWellFormed_52 : decode b_Cr_isWellFormed 52 = .ok (.getfield 11, 3) := by decide +kernel
theorem d_Cr_isWellFormed_55 : decode b_Cr_isWellFormed 55 = .ok (.iload_n 1, 1) := by decide +kernel
theorem d_Cr_isWellFormed_56 : decode b_Cr_isWellFormed 56 = .ok (.iaload, 1) := by decide +kernel
theorem d_Cr_isWellFormed_57 : decode b_Cr_isWellFormed 57 = .ok (.iload_n 2, 1) := by decide +kernel
theorem d_Cr_isWellFormed_58 : decode b_Cr_isWellFormed 58 = .ok (.if_icmp .lt 5, 3) := by decide +kernel
theorem d_Cr_isWellFormed_61 : decode b_Cr_isWellFormed 61 = .ok (.iconst 0, 1) := by decide +kernel
theorem d_Cr_isWellFormed_62 : decode b_Cr_isWellFormed 62 = .ok (.ireturn, 1) := by decide +kernel
theorem d_Cr_isWellFormed_63 : decode b_Cr_isWellFormed 63 = .ok (.iinc 1 1, 3) := by decide +kernel
theorem d_Cr_isWellFormed_66 : decode b_Cr_isWellFormed 66 = .ok (.goto (-42), 3) := by decide +kernel
theorem d_Cr_isWellFormed_69 : decode b_Cr_isWellFormed 69 = .ok (.iconst 1, 1) := by decide +kernel
theorem d_Cr_isWellFormed_70 : decode b_Cr_isWellFormed 70 = .ok (.ireturn, 1) := by decide +kernel
theorem d_Cr_isValidAt_0 : decode b_Cr_isValidAt 0 = .ok (.aload_n 0, 1) := by decide +kernel
theorem d_Cr_isValidAt_1 : decode b_Cr_isValidAt 1 = .ok (.getfield 42, 3) := by decide +kernel
theorem d_Cr_isValidAt_4 : decode b_Cr_isValidAt 4 = .ok (.ifCond .ne 23, 3) := by decide +kernel
theorem d_Cr_isValidAt_7 : decode b_Cr_isValidAt 7 = .ok (.aload_n 0, 1) := by decide +kernel
theorem d_Cr_isValidAt_8 : decode b_Cr_isValidAt 8 = .ok (.getfield 22, 3) := by decide +kernel
theorem d_Cr_isValidAt_11 : decode b_Cr_isValidAt 11 = .ok (.iload_n 1, 1) := by decide +kernel
theorem d_Cr_isValidAt_12 : decode b_Cr_isValidAt 12 = .ok (.if_icmp .gt 15, 3) := by decide +kernel
theorem d_Cr_isValidAt_15 : decode b_Cr_isValidAt 15 = .ok (.iload_n 1, 1) := by decide +kernel
theorem d_Cr_isValidAt_16 : decode b_Cr_isValidAt 16 = .ok (.aload_n 0, 1) := by decide +kernel
theorem d_Cr_isValidAt_17 : decode b_Cr_isValidAt 17 = .ok (.getfield 25, 3) := by decide +kernel
theorem d_Cr_isValidAt_20 : decode b_Cr_isValidAt 20 = .ok (.if_icmp .gt 7, 3) := by decide +kernel
theorem d_Cr_isValidAt_23 : decode b_Cr_isValidAt 23 = .ok (.iconst 1, 1) := by decide +kernel
theorem d_Cr_isValidAt_24 : decode b_Cr_isValidAt 24 = .ok (.goto 4, 3) := by decide +kernel
theorem d_Cr_isValidAt_27 : decode b_Cr_isValidAt 27 = .ok (.iconst 0, 1) := by decide +kernel
theorem d_Cr_isValidAt_28 : decode b_Cr_isValidAt 28 = .ok (.ireturn, 1) := by decide +kernel
theorem d_Cr_mark_0 : decode b_Cr_mark 0 = .ok (.iconst 0, 1) := by decide +kernel
theorem d_Cr_mark_1 : decode b_Cr_mark 1 = .ok (.aload_n 0, 1) := by decide +kernel
theorem d_Cr_mark_2 : decode b_Cr_mark 2 = .ok (.getfield 15, 3) := by decide +kernel
theorem d_Cr_mark_5 : decode b_Cr_mark 5 = .ok (.invokestatic 46, 3) := by decide +kernel
theorem d_Cr_mark_8 : decode b_Cr_mark 8 = .ok (.aload_n 0, 1) := by decide +kernel
theorem d_Cr_mark_9 : decode b_Cr_mark 9 = .ok (.getfield 19, 3) := by decide +kernel
theorem d_Cr_mark_12 : decode b_Cr_mark 12 = .ok (.invokestatic 46, 3) := by decide +kernel
theorem d_Cr_mark_15 : decode b_Cr_mark 15 = .ok (.istore_n 1, 1) := by decide +kernel
theorem d_Cr_mark_16 : decode b_Cr_mark 16 = .ok (.iconst 0, 1) := by decide +kernel
theorem d_Cr_mark_17 : decode b_Cr_mark 17 = .ok (.istore_n 2, 1) := by decide +kernel
theorem d_Cr_mark_18 : decode b_Cr_mark 18 = .ok (.iload_n 2, 1) := by decide +kernel
theorem d_Cr_mark_19 : decode b_Cr_mark 19 = .ok (.iconst 4, 1) := by decide +kernel
theorem d_Cr_mark_20 : decode b_Cr_mark 20 = .ok (.if_icmp .ge 20, 3) := by decide +kernel
theorem d_Cr_mark_23 : decode b_Cr_mark 23 = .ok (.iload_n 1, 1) := by decide +kernel
theorem d_Cr_mark_24 : decode b_Cr_mark 24 = .ok (.aload_n 0, 1) := by decide +kernel
theorem d_Cr_mark_25 : decode b_Cr_mark 25 = .ok (.getfield 11, 3) := by decide +kernel
theorem d_Cr_mark_28 : decode b_Cr_mark 28 = .ok (.iload_n 2, 1) := by decide +kernel
theorem d_Cr_mark_29 : decode b_Cr_mark 29 = .ok (.iaload, 1) := by decide +kernel
theorem d_Cr_mark_30 : decode b_Cr_mark 30 = .ok (.invokestatic 46, 3) := by decide +kernel
theorem d_Cr_mark_33 : decode b_Cr_mark 33 = .ok (.istore_n 1, 1) := by decide +kernel
theorem d_Cr_mark_34 : decode b_Cr_mark 34 = .ok (.iinc 2 1, 3) := by decide +kernel
theorem d_Cr_mark_37 : decode b_Cr_mark 37 = .ok (.goto (-19), 3) := by decide +kernel
theorem d_Cr_mark_40 : decode b_Cr_mark 40 = .ok (.iload_n 1, 1) := by decide +kernel
theorem d_Cr_mark_41 : decode b_Cr_mark 41 = .ok (.aload_n 0, 1) := by decide +kernel
theorem d_Cr_mark_42 : decode b_Cr_mark 42 = .ok (.getfield 22, 3) := by decide +kernel
theorem d_Cr_mark_45 : decode b_Cr_mark 45 = .ok (.invokestatic 46, 3) := by decide +kernel
theorem d_Cr_mark_48 : decode b_Cr_mark 48 = .ok (.aload_n 0, 1) := by decide +kernel
theorem d_Cr_mark_49 : decode b_Cr_mark 49 = .ok (.getfield 25, 3) := by decide +kernel
theorem d_Cr_mark_52 : decode b_Cr_mark 52 = .ok (.invokestatic 46, 3) := by decide +kernel
theorem d_Cr_mark_55 : decode b_Cr_mark 55 = .ok (.ireturn, 1) := by decide +kernel
theorem d_Cr_mix_0 : decode b_Cr_mix 0 = .ok (.iload_n 0, 1) := by decide +kernel
theorem d_Cr_mix_1 : decode b_Cr_mix 1 = .ok (.iload_n 1, 1) := by decide +kernel
theorem d_Cr_mix_2 : decode b_Cr_mix 2 = .ok (.ixor, 1) := by decide +kernel
theorem d_Cr_mix_3 : decode b_Cr_mix 3 = .ok (.ldc 49, 2) := by decide +kernel
theorem d_Cr_mix_5 : decode b_Cr_mix 5 = .ok (.imul, 1) := by decide +kernel
theorem d_Cr_mix_6 : decode b_Cr_mix 6 = .ok (.istore_n 2, 1) := by decide +kernel
theorem d_Cr_mix_7 : decode b_Cr_mix 7 = .ok (.iload_n 2, 1) := by decide +kernel
theorem d_Cr_mix_8 : decode b_Cr_mix 8 = .ok (.iload_n 2, 1) := by decide +kernel
theorem d_Cr_mix_9 : decode b_Cr_mix 9 = .ok (.bipush 15, 2) := by decide +kernel
theorem d_Cr_mix_11 : decode b_Cr_mix 11 = .ok (.iushr, 1) := by decide +kernel
theorem d_Cr_mix_12 : decode b_Cr_mix 12 = .ok (.ixor, 1) := by decide +kernel
theorem d_Cr_mix_13 : decode b_Cr_mix 13 = .ok (.ireturn, 1) := by decide +kernel
theorem d_Cs_init_0 : decode b_Cs_init 0 = .ok (.aload_n 0, 1) := by decide +kernel
theorem d_Cs_init_1 : decode b_Cs_init 1 = .ok (.invokespecial 1, 3) := by decide +kernel
theorem d_Cs_init_4 : decode b_Cs_init 4 = .ok (.aload_n 0, 1) := by decide +kernel
theorem d_Cs_init_5 : decode b_Cs_init 5 = .ok (.new 7, 3) := by decide +kernel
theorem d_Cs_init_8 : decode b_Cs_init 8 = .ok (.dup, 1) := by decide +kernel
theorem d_Cs_init_9 : decode b_Cs_init 9 = .ok (.invokespecial 9, 3) := by decide +kernel
theorem d_Cs_init_12 : decode b_Cs_init 12 = .ok (.putfield 10, 3) := by decide +kernel
theorem d_Cs_init_15 : decode b_Cs_init 15 = .ok (.return_, 1) := by decide +kernel
theorem d_Cs_count_0 : decode b_Cs_count 0 = .ok (.aload_n 0, 1) := by decide +kernel
theorem d_Cs_count_1 : decode b_Cs_count 1 = .ok (.getfield 10, 3) := by decide +kernel
theorem d_Cs_count_4 : decode b_Cs_count 4 = .ok (.invokevirtual 16, 3) := by decide +kernel
theorem d_Cs_count_7 : decode b_Cs_count 7 = .ok (.ireturn, 1) := by decide +kernel
theorem d_Cs_take_0 : decode b_Cs_take 0 = .ok (.aload_n 0, 1) := by decide +kernel
theorem d_Cs_take_1 : decode b_Cs_take 1 = .ok (.getfield 10, 3) := by decide +kernel
theorem d_Cs_take_4 : decode b_Cs_take 4 = .ok (.aload_n 1, 1) := by decide +kernel
theorem d_Cs_take_5 : decode b_Cs_take 5 = .ok (.invokevirtual 20, 3) := by decide +kernel
theorem d_Cs_take_8 : decode b_Cs_take 8 = .ok (.pop, 1) := by decide +kernel
theorem d_Cs_take_9 : decode b_Cs_take 9 = .ok (.aload_n 0, 1) := by decide +kernel
theorem d_Cs_take_10 : decode b_Cs_take 10 = .ok (.getfield 10, 3) := by decide +kernel
theorem d_Cs_take_13 : decode b_Cs_take 13 = .ok (.invokevirtual 16, 3) := by decide +kernel
theorem d_Cs_take_16 : decode b_Cs_take 16 = .ok (.ireturn, 1) := by decide +kernel
theorem d_Cs_letTimeGoOn_0 : decode b_Cs_letTimeGoOn 0 = .ok (.aload_n 0, 1) := by decide +kernel
theorem d_Cs_letTimeGoOn_1 : decode b_Cs_letTimeGoOn 1 = .ok (.dup, 1) := by decide +kernel
theorem d_Cs_letTimeGoOn_2 : decode b_Cs_letTimeGoOn 2 = .ok (.getfield 24, 3) := by decide +kernel
theorem d_Cs_letTimeGoOn_5 : decode b_Cs_letTimeGoOn 5 = .ok (.iload_n 1, 1) := by decide +kernel
theorem d_Cs_letTimeGoOn_6 : decode b_Cs_letTimeGoOn 6 = .ok (.iadd, 1) := by decide +kernel
theorem d_Cs_letTimeGoOn_7 : decode b_Cs_letTimeGoOn 7 = .ok (.putfield 24, 3) := by decide +kernel
theorem d_Cs_letTimeGoOn_10 : decode b_Cs_letTimeGoOn 10 = .ok (.aload_n 0, 1) := by decide +kernel
theorem d_Cs_letTimeGoOn_11 : decode b_Cs_letTimeGoOn 11 = .ok (.getfield 24, 3) := by decide +kernel
theorem d_Cs_letTimeGoOn_14 : decode b_Cs_letTimeGoOn 14 = .ok (.ireturn, 1) := by decide +kernel
theorem d_Cs_find_0 : decode b_Cs_find 0 = .ok (.iload_n 1, 1) := by decide +kernel
theorem d_Cs_find_1 : decode b_Cs_find 1 = .ok (.iconst 1, 1) := by decide +kernel
theorem d_Cs_find_2 : decode b_Cs_find 2 = .ok (.if_icmp .lt 30, 3) := by decide +kernel
theorem d_Cs_find_5 : decode b_Cs_find 5 = .ok (.iload_n 1, 1) := by decide +kernel
theorem d_Cs_find_6 : decode b_Cs_find 6 = .ok (.aload_n 0, 1) := by decide +kernel
theorem d_Cs_find_7 : decode b_Cs_find 7 = .ok (.getfield 10, 3) := by decide +kernel
theorem d_Cs_find_10 : decode b_Cs_find 10 = .ok (.invokevirtual 16, 3) := by decide +kernel
theorem d_Cs_find_13 : decode b_Cs_find 13 = .ok (.if_icmp .gt 19, 3) := by decide +kernel
theorem d_Cs_find_16 : decode b_Cs_find 16 = .ok (.aload_n 0, 1) := by decide +kernel
theorem d_Cs_find_17 : decode b_Cs_find 17 = .ok (.getfield 10, 3) := by decide +kernel
theorem d_Cs_find_20 : decode b_Cs_find 20 = .ok (.iload_n 1, 1) := by decide +kernel
theorem d_Cs_find_21 : decode b_Cs_find 21 = .ok (.iconst 1, 1) := by decide +kernel
theorem d_Cs_find_22 : decode b_Cs_find 22 = .ok (.isub, 1) := by decide +kernel
theorem d_Cs_find_23 : decode b_Cs_find 23 = .ok (.invokevirtual 28, 3) := by decide +kernel
theorem d_Cs_find_26 : decode b_Cs_find 26 = .ok (.checkcast 32, 3) := by decide +kernel
theorem d_Cs_find_29 : decode b_Cs_find 29 = .ok (.goto 4, 3) := by decide +kernel
theorem d_Cs_find_32 : decode b_Cs_find 32 = .ok (.aconst_null, 1) := by decide +kernel
theorem d_Cs_find_33 : decode b_Cs_find 33 = .ok (.areturn, 1) := by decide +kernel
theorem d_Cs_findValid_0 : decode b_Cs_findValid 0 = .ok (.aload_n 0, 1) := by decide +kernel
theorem d_Cs_findValid_1 : decode b_Cs_findValid 1 = .ok (.iload_n 1, 1) := by decide +kernel
theorem d_Cs_findValid_2 : decode b_Cs_findValid 2 = .ok (.invokevirtual 34, 3) := by decide +kernel
theorem d_Cs_findValid_5 : decode b_Cs_findValid 5 = .ok (.astore_n 2, 1) := by decide +kernel
theorem d_Cs_findValid_6 : decode b_Cs_findValid 6 = .ok (.aload_n 2, 1) := by decide +kernel
theorem d_Cs_findValid_7 : decode b_Cs_findValid 7 = .ok (.ifnull 18, 3) := by decide +kernel
theorem d_Cs_findValid_10 : decode b_Cs_findValid 10 = .ok (.aload_n 2, 1) := by decide +kernel
theorem d_Cs_findValid_11 : decode b_Cs_findValid 11 = .ok (.aload_n 0, 1) := by decide +kernel
theorem d_Cs_findValid_12 : decode b_Cs_findValid 12 = .ok (.getfield 24, 3) := by decide +kernel
theorem d_Cs_findValid_15 : decode b_Cs_findValid 15 = .ok (.invokevirtual 38, 3) := by decide +kernel
theorem d_Cs_findValid_18 : decode b_Cs_findValid 18 = .ok (.ifCond .eq 7, 3) := by decide +kernel
theorem d_Cs_findValid_21 : decode b_Cs_findValid 21 = .ok (.aload_n 2, 1) := by decide +kernel
theorem d_Cs_findValid_22 : decode b_Cs_findValid 22 = .ok (.goto 4, 3) := by decide +kernel
theorem d_Cs_findValid_25 : decode b_Cs_findValid 25 = .ok (.aconst_null, 1) := by decide +kernel
theorem d_Cs_findValid_26 : decode b_Cs_findValid 26 = .ok (.areturn, 1) := by decide +kernel
theorem d_Fa_init_0 : decode b_Fa_init 0 = .ok (.aload_n 0, 1) := by decide +kernel
theorem d_Fa_init_1 : decode b_Fa_init 1 = .ok (.invokespecial 3, 3) := by decide +kernel
theorem d_Fa_init_4 : decode b_Fa_init 4 = .ok (.return_, 1) := by decide +kernel
theorem d_Fa_becomeSaidBy_0 : decode b_Fa_becomeSaidBy 0 = .ok (.aload_n 0, 1) := by decide +kernel
theorem d_Fa_becomeSaidBy_1 : decode b_Fa_becomeSaidBy 1 = .ok (.aload_n 1, 1) := by decide +kernel
theorem d_Fa_becomeSaidBy_2 : decode b_Fa_becomeSaidBy 2 = .ok (.getfield 9, 3) := by decide +kernel
theorem d_Fa_becomeSaidBy_5 : decode b_Fa_becomeSaidBy 5 = .ok (.putfield 15, 3) := by decide +kernel
theorem d_Fa_becomeSaidBy_8 : decode b_Fa_becomeSaidBy 8 = .ok (.aload_n 0, 1) := by decide +kernel
theorem d_Fa_becomeSaidBy_9 : decode b_Fa_becomeSaidBy 9 = .ok (.aload_n 1, 1) := by decide +kernel
theorem d_Fa_becomeSaidBy_10 : decode b_Fa_becomeSaidBy 10 = .ok (.getfield 18, 3) := by decide +kernel
theorem d_Fa_becomeSaidBy_13 : decode b_Fa_becomeSaidBy 13 = .ok (.putfield 21, 3) := by decide +kernel
theorem d_Fa_becomeSaidBy_16 : decode b_Fa_becomeSaidBy 16 = .ok (.aload_n 0, 1) := by decide +kernel
theorem d_Fa_becomeSaidBy_17 : decode b_Fa_becomeSaidBy 17 = .ok (.aload_n 1, 1) := by decide +kernel
theorem d_Fa_becomeSaidBy_18 : decode b_Fa_becomeSaidBy 18 = .ok (.getfield 24, 3) := by decide +kernel
theorem d_Fa_becomeSaidBy_21 : decode b_Fa_becomeSaidBy 21 = .ok (.iconst 0, 1) := by decide +kernel
theorem d_Fa_becomeSaidBy_22 : decode b_Fa_becomeSaidBy 22 = .ok (.iaload, 1) := by decide +kernel
theorem d_Fa_becomeSaidBy_23 : decode b_Fa_becomeSaidBy 23 = .ok (.putfield 28, 3) := by decide +kernel
theorem d_Fa_becomeSaidBy_26 : decode b_Fa_becomeSaidBy 26 = .ok (.aload_n 0, 1) := by decide +kernel
theorem d_Fa_becomeSaidBy_27 : decode b_Fa_becomeSaidBy 27 = .ok (.aload_n 1, 1) := by decide +kernel
theorem d_Fa_becomeSaidBy_28 : decode b_Fa_becomeSaidBy 28 = .ok (.getfield 24, 3) := by decide +kernel
theorem d_Fa_becomeSaidBy_31 : decode b_Fa_becomeSaidBy 31 = .ok (.iconst 1, 1) := by decide +kernel
theorem d_Fa_becomeSaidBy_32 : decode b_Fa_becomeSaidBy 32 = .ok (.iaload, 1) := by decide +kernel
theorem d_Fa_becomeSaidBy_33 : decode b_Fa_becomeSaidBy 33 = .ok (.putfield 31, 3) := by decide +kernel
theorem d_Fa_becomeSaidBy_36 : decode b_Fa_becomeSaidBy 36 = .ok (.aload_n 0, 1) := by decide +kernel
theorem d_Fa_becomeSaidBy_37 : decode b_Fa_becomeSaidBy 37 = .ok (.aload_n 1, 1) := by decide +kernel
theorem d_Fa_becomeSaidBy_38 : decode b_Fa_becomeSaidBy 38 = .ok (.getfield 24, 3) := by decide +kernel
theorem d_Fa_becomeSaidBy_41 : decode b_Fa_becomeSaidBy 41 = .ok (.iconst 2, 1) := by decide +kernel
theorem d_Fa_becomeSaidBy_42 : decode b_Fa_becomeSaidBy 42 = .ok (.iaload, 1) := by decide +kernel
theorem d_Fa_becomeSaidBy_43 : decode b_Fa_becomeSaidBy 43 = .ok (.putfield 34, 3) := by decide +kernel
theorem d_Fa_becomeSaidBy_46 : decode b_Fa_becomeSaidBy 46 = .ok (.aload_n 0, 1) := by decide +kernel
theorem d_Fa_becomeSaidBy_47 : decode b_Fa_becomeSaidBy 47 = .ok (.aload_n 1, 1) := by decide +kernel
theorem d_Fa_becomeSaidBy_48 : decode b_Fa_becomeSaidBy 48 = .ok (.getfield 24, 3) := by decide +kernel
theorem d_Fa_becomeSaidBy_51 : decode b_Fa_becomeSaidBy 51 = .ok (.iconst 3, 1) := by decide +kernel
theorem d_Fa_becomeSaidBy_52 : decode b_Fa_becomeSaidBy 52 = .ok (.iaload, 1) := by decide +kernel
theorem d_Fa_becomeSaidBy_53 : decode b_Fa_becomeSaidBy 53 = .ok (.putfield 37, 3) := by decide +kernel
theorem d_Fa_becomeSaidBy_56 : decode b_Fa_becomeSaidBy 56 = .ok (.return_, 1) := by decide +kernel
theorem d_Fa_become_0 : decode b_Fa_become 0 = .ok (.aload_n 0, 1) := by decide +kernel
theorem d_Fa_become_1 : decode b_Fa_become 1 = .ok (.aload_n 1, 1) := by decide +kernel
theorem d_Fa_become_2 : decode b_Fa_become 2 = .ok (.getfield 15, 3) := by decide +kernel
theorem d_Fa_become_5 : decode b_Fa_become 5 = .ok (.putfield 15, 3) := by decide +kernel
theorem d_Fa_become_8 : decode b_Fa_become 8 = .ok (.aload_n 0, 1) := by decide +kernel
theorem d_Fa_become_9 : decode b_Fa_become 9 = .ok (.aload_n 1, 1) := by decide +kernel
theorem d_Fa_become_10 : decode b_Fa_become 10 = .ok (.getfield 21, 3) := by decide +kernel
theorem d_Fa_become_13 : decode b_Fa_become 13 = .ok (.putfield 21, 3) := by decide +kernel
theorem d_Fa_become_16 : decode b_Fa_become 16 = .ok (.aload_n 0, 1) := by decide +kernel
theorem d_Fa_become_17 : decode b_Fa_become 17 = .ok (.aload_n 1, 1) := by decide +kernel
theorem d_Fa_become_18 : decode b_Fa_become 18 = .ok (.getfield 28, 3) := by decide +kernel
theorem d_Fa_become_21 : decode b_Fa_become 21 = .ok (.putfield 28, 3) := by decide +kernel
theorem d_Fa_become_24 : decode b_Fa_become 24 = .ok (.aload_n 0, 1) := by decide +kernel
theorem d_Fa_become_25 : decode b_Fa_become 25 = .ok (.aload_n 1, 1) := by decide +kernel
theorem d_Fa_become_26 : decode b_Fa_become 26 = .ok (.getfield 31, 3) := by decide +kernel
theorem d_Fa_become_29 : decode b_Fa_become 29 = .ok (.putfield 31, 3) := by decide +kernel
theorem d_Fa_become_32 : decode b_Fa_become 32 = .ok (.aload_n 0, 1) := by decide +kernel
theorem d_Fa_become_33 : decode b_Fa_become 33 = .ok (.aload_n 1, 1) := by decide +kernel
theorem d_Fa_become_34 : decode b_Fa_become 34 = .ok (.getfield 34, 3) := by decide +kernel
theorem d_Fa_become_37 : decode b_Fa_become 37 = .ok (.putfield 34, 3) := by decide +kernel
theorem d_Fa_become_40 : decode b_Fa_become 40 = .ok (.aload_n 0, 1) := by decide +kernel
theorem d_Fa_become_41 : decode b_Fa_become 41 = .ok (.aload_n 1, 1) := by decide +kernel
theorem d_Fa_become_42 : decode b_Fa_become 42 = .ok (.getfield 37, 3) := by decide +kernel
theorem d_Fa_become_45 : decode b_Fa_become 45 = .ok (.putfield 37, 3) := by decide +kernel
theorem d_Fa_become_48 : decode b_Fa_become 48 = .ok (.return_, 1) := by decide +kernel
theorem d_Fa_isMay_0 : decode b_Fa_isMay 0 = .ok (.aload_n 0, 1) := by decide +kernel
theorem d_Fa_isMay_1 : decode b_Fa_isMay 1 = .ok (.getfield 15, 3) := by decide +kernel
theorem d_Fa_isMay_4 : decode b_Fa_isMay 4 = .ok (.ifCond .ne 40, 3) := by decide +kernel
theorem d_Fa_isMay_7 : decode b_Fa_isMay 7 = .ok (.aload_n 0, 1) := by decide +kernel
theorem d_Fa_isMay_8 : decode b_Fa_isMay 8 = .ok (.getfield 21, 3) := by decide +kernel
theorem d_Fa_isMay_11 : decode b_Fa_isMay 11 = .ok (.iload_n 1, 1) := by decide +kernel
theorem d_Fa_isMay_12 : decode b_Fa_isMay 12 = .ok (.if_icmp .ne 32, 3) := by decide +kernel
theorem d_Fa_isMay_15 : decode b_Fa_isMay 15 = .ok (.aload_n 0, 1) := by decide +kernel
theorem d_Fa_isMay_16 : decode b_Fa_isMay 16 = .ok (.getfield 28, 3) := by decide +kernel
theorem d_Fa_isMay_19 : decode b_Fa_isMay 19 = .ok (.iload_n 2, 1) := by decide +kernel
theorem d_Fa_isMay_20 : decode b_Fa_isMay 20 = .ok (.if_icmp .ne 24, 3) := by decide +kernel
theorem d_Fa_isMay_23 : decode b_Fa_isMay 23 = .ok (.aload_n 0, 1) := by decide +kernel
theorem d_Fa_isMay_24 : decode b_Fa_isMay 24 = .ok (.getfield 31, 3) := by decide +kernel
theorem d_Fa_isMay_27 : decode b_Fa_isMay 27 = .ok (.iload_n 3, 1) := by decide +kernel
theorem d_Fa_isMay_28 : decode b_Fa_isMay 28 = .ok (.if_icmp .ne 16, 3) := by decide +kernel
theorem d_Fa_isMay_31 : decode b_Fa_isMay 31 = .ok (.aload_n 0, 1) := by decide +kernel
theorem d_Fa_isMay_32 : decode b_Fa_isMay 32 = .ok (.getfield 34, 3) := by decide +kernel
theorem d_Fa_isMay_35 : decode b_Fa_isMay 35 = .ok (.iload 4, 2) := by decide +kernel
theorem d_Fa_isMay_37 : decode b_Fa_isMay 37 = .ok (.if_icmp .ne 7, 3) := by decide +kernel
theorem d_Fa_isMay_40 : decode b_Fa_isMay 40 = .ok (.iconst 1, 1) := by decide +kernel
theorem d_Fa_isMay_41 : decode b_Fa_isMay 41 = .ok (.goto 4, 3) := by decide +kernel
theorem d_Fa_isMay_44 : decode b_Fa_isMay 44 = .ok (.iconst 0, 1) := by decide +kernel
theorem d_Fa_isMay_45 : decode b_Fa_isMay 45 = .ok (.ireturn, 1) := by decide +kernel
theorem d_Fa_isOfSameThing_0 : decode b_Fa_isOfSameThing 0 = .ok (.aload_n 0, 1) := by decide +kernel
theorem d_Fa_isOfSameThing_1 : decode b_Fa_isOfSameThing 1 = .ok (.getfield 31, 3) := by decide +kernel
theorem d_Fa_isOfSameThing_4 : decode b_Fa_isOfSameThing 4 = .ok (.aload_n 1, 1) := by decide +kernel
theorem d_Fa_isOfSameThing_5 : decode b_Fa_isOfSameThing 5 = .ok (.getfield 31, 3) := by decide +kernel
theorem d_Fa_isOfSameThing_8 : decode b_Fa_isOfSameThing 8 = .ok (.if_icmp .ne 18, 3) := by decide +kernel
theorem d_Fa_isOfSameThing_11 : decode b_Fa_isOfSameThing 11 = .ok (.aload_n 0, 1) := by decide +kernel
theorem d_Fa_isOfSameThing_12 : decode b_Fa_isOfSameThing 12 = .ok (.getfield 34, 3) := by decide +kernel
theorem d_Fa_isOfSameThing_15 : decode b_Fa_isOfSameThing 15 = .ok (.aload_n 1, 1) := by decide +kernel
theorem d_Fa_isOfSameThing_16 : decode b_Fa_isOfSameThing 16 = .ok (.getfield 34, 3) := by decide +kernel
theorem d_Fa_isOfSameThing_19 : decode b_Fa_isOfSameThing 19 = .ok (.if_icmp .ne 7, 3) := by decide +kernel
theorem d_Fa_isOfSameThing_22 : decode b_Fa_isOfSameThing 22 = .ok (.iconst 1, 1) := by decide +kernel
theorem d_Fa_isOfSameThing_23 : decode b_Fa_isOfSameThing 23 = .ok (.goto 4, 3) := by decide +kernel
theorem d_Fa_isOfSameThing_26 : decode b_Fa_isOfSameThing 26 = .ok (.iconst 0, 1) := by decide +kernel
theorem d_Fa_isOfSameThing_27 : decode b_Fa_isOfSameThing 27 = .ok (.ireturn, 1) := by decide +kernel
theorem d_Fu_init_0 : decode b_Fu_init 0 = .ok (.aload_n 0, 1) := by decide +kernel
theorem d_Fu_init_1 : decode b_Fu_init 1 = .ok (.invokespecial 1, 3) := by decide +kernel
theorem d_Fu_init_4 : decode b_Fu_init 4 = .ok (.aload_n 0, 1) := by decide +kernel
theorem d_Fu_init_5 : decode b_Fu_init 5 = .ok (.iconst (-1), 1) := by decide +kernel
theorem d_Fu_init_6 : decode b_Fu_init 6 = .ok (.putfield 9, 3) := by decide +kernel
theorem d_Fu_init_9 : decode b_Fu_init 9 = .ok (.return_, 1) := by decide +kernel
theorem d_Fu_light_0 : decode b_Fu_light 0 = .ok (.aload_n 0, 1) := by decide +kernel
theorem d_Fu_light_1 : decode b_Fu_light 1 = .ok (.iload_n 1, 1) := by decide +kernel
theorem d_Fu_light_2 : decode b_Fu_light 2 = .ok (.putfield 9, 3) := by decide +kernel
theorem d_Fu_light_5 : decode b_Fu_light 5 = .ok (.return_, 1) := by decide +kernel
theorem d_Fu_burnsThrough_0 : decode b_Fu_burnsThrough 0 = .ok (.aload_n 0, 1) := by decide +kernel
theorem d_Fu_burnsThrough_1 : decode b_Fu_burnsThrough 1 = .ok (.getfield 9, 3) := by decide +kernel
theorem d_Fu_burnsThrough_4 : decode b_Fu_burnsThrough 4 = .ok (.iconst (-1), 1) := by decide +kernel
theorem d_Fu_burnsThrough_5 : decode b_Fu_burnsThrough 5 = .ok (.if_icmp .ne 5, 3) := by decide +kernel
theorem d_Fu_burnsThrough_8 : decode b_Fu_burnsThrough 8 = .ok (.iconst 0, 1) := by decide +kernel
theorem d_Fu_burnsThrough_9 : decode b_Fu_burnsThrough 9 = .ok (.ireturn, 1) := by decide +kernel
theorem d_Fu_burnsThrough_10 : decode b_Fu_burnsThrough 10 = .ok (.aload_n 0, 1) := by decide +kernel
theorem d_Fu_burnsThrough_11 : decode b_Fu_burnsThrough 11 = .ok (.dup, 1) := by decide +kernel
theorem d_Fu_burnsThrough_12 : decode b_Fu_burnsThrough 12 = .ok (.getfield 9, 3) := by decide +kernel
theorem d_Fu_burnsThrough_15 : decode b_Fu_burnsThrough 15 = .ok (.iconst 1, 1) := by decide +kernel
theorem d_Fu_burnsThrough_16 : decode b_Fu_burnsThrough 16 = .ok (.isub, 1) := by decide +kernel
theorem d_Fu_burnsThrough_17 : decode b_Fu_burnsThrough 17 = .ok (.putfield 9, 3) := by decide +kernel
theorem d_Fu_burnsThrough_20 : decode b_Fu_burnsThrough 20 = .ok (.aload_n 0, 1) := by decide +kernel
theorem d_Fu_burnsThrough_21 : decode b_Fu_burnsThrough 21 = .ok (.getfield 9, 3) := by decide +kernel
theorem d_Fu_burnsThrough_24 : decode b_Fu_burnsThrough 24 = .ok (.iconst (-1), 1) := by decide +kernel
theorem d_Fu_burnsThrough_25 : decode b_Fu_burnsThrough 25 = .ok (.if_icmp .ne 7, 3) := by decide +kernel
theorem d_Fu_burnsThrough_28 : decode b_Fu_burnsThrough 28 = .ok (.iconst 1, 1) := by decide +kernel
theorem d_Fu_burnsThrough_29 : decode b_Fu_burnsThrough 29 = .ok (.goto 4, 3) := by decide +kernel
theorem d_Fu_burnsThrough_32 : decode b_Fu_burnsThrough 32 = .ok (.iconst 0, 1) := by decide +kernel
theorem d_Fu_burnsThrough_33 : decode b_Fu_burnsThrough 33 = .ok (.ireturn, 1) := by decide +kernel
theorem d_Pf_init_0 : decode b_Pf_init 0 = .ok (.aload_n 0, 1) := by decide +kernel
theorem d_Pf_init_1 : decode b_Pf_init 1 = .ok (.invokespecial 3, 3) := by decide +kernel
theorem d_Pf_init_4 : decode b_Pf_init 4 = .ok (.aload_n 0, 1) := by decide +kernel
theorem d_Pf_init_5 : decode b_Pf_init 5 = .ok (.bipush 40, 2) := by decide +kernel
theorem d_Pf_init_7 : decode b_Pf_init 7 = .ok (.newarray .int, 2) := by decide +kernel
theorem d_Pf_init_9 : decode b_Pf_init 9 = .ok (.putfield 9, 3) := by decide +kernel
theorem d_Pf_init_12 : decode b_Pf_init 12 = .ok (.aload_n 0, 1) := by decide +kernel
theorem d_Pf_init_13 : decode b_Pf_init 13 = .ok (.bipush 40, 2) := by decide +kernel
theorem d_Pf_init_15 : decode b_Pf_init 15 = .ok (.newarray .int, 2) := by decide +kernel
theorem d_Pf_init_17 : decode b_Pf_init 17 = .ok (.putfield 15, 3) := by decide +kernel
theorem d_Pf_init_20 : decode b_Pf_init 20 = .ok (.aload_n 0, 1) := by decide +kernel
theorem d_Pf_init_21 : decode b_Pf_init 21 = .ok (.bipush 40, 2) := by decide +kernel
theorem d_Pf_init_23 : decode b_Pf_init 23 = .ok (.newarray .int, 2) := by decide +kernel
theorem d_Pf_init_25 : decode b_Pf_init 25 = .ok (.putfield 18, 3) := by decide +kernel
theorem d_Pf_init_28 : decode b_Pf_init 28 = .ok (.return_, 1) := by decide +kernel
theorem d_Pf_length_0 : decode b_Pf_length 0 = .ok (.aload_n 0, 1) := by decide +kernel
theorem d_Pf_length_1 : decode b_Pf_length 1 = .ok (.getfield 21, 3) := by decide +kernel
theorem d_Pf_length_4 : decode b_Pf_length 4 = .ok (.ireturn, 1) := by decide +kernel
theorem d_Pf_hasStep_0 : decode b_Pf_hasStep 0 = .ok (.iload_n 1, 1) := by decide +kernel
theorem d_Pf_hasStep_1 : decode b_Pf_hasStep 1 = .ok (.ifCond .lt 15, 3) := by decide +kernel
theorem d_Pf_hasStep_4 : decode b_Pf_hasStep 4 = .ok (.iload_n 1, 1) := by decide +kernel
theorem d_Pf_hasStep_5 : decode b_Pf_hasStep 5 = .ok (.aload_n 0, 1) := by decide +kernel
theorem d_Pf_hasStep_6 : decode b_Pf_hasStep 6 = .ok (.getfield 21, 3) := by decide +kernel
theorem d_Pf_hasStep_9 : decode b_Pf_hasStep 9 = .ok (.if_icmp .ge 7, 3) := by decide +kernel
theorem d_Pf_hasStep_12 : decode b_Pf_hasStep 12 = .ok (.iconst 1, 1) := by decide +kernel
theorem d_Pf_hasStep_13 : decode b_Pf_hasStep 13 = .ok (.goto 4, 3) := by decide +kernel
theorem d_Pf_hasStep_16 : decode b_Pf_hasStep 16 = .ok (.iconst 0, 1) := by decide +kernel
theorem d_Pf_hasStep_17 : decode b_Pf_hasStep 17 = .ok (.ireturn, 1) := by decide +kernel
theorem d_Pf_ruleAt_0 : decode b_Pf_ruleAt 0 = .ok (.aload_n 0, 1) := by decide +kernel
theorem d_Pf_ruleAt_1 : decode b_Pf_ruleAt 1 = .ok (.getfield 9, 3) := by decide +kernel
theorem d_Pf_ruleAt_4 : decode b_Pf_ruleAt 4 = .ok (.iload_n 1, 1) := by decide +kernel
theorem d_Pf_ruleAt_5 : decode b_Pf_ruleAt 5 = .ok (.iaload, 1) := by decide +kernel
theorem d_Pf_ruleAt_6 : decode b_Pf_ruleAt 6 = .ok (.ireturn, 1) := by decide +kernel
theorem d_Pf_xAt_0 : decode b_Pf_xAt 0 = .ok (.aload_n 0, 1) := by decide +kernel
theorem d_Pf_xAt_1 : decode b_Pf_xAt 1 = .ok (.getfield 15, 3) := by decide +kernel
theorem d_Pf_xAt_4 : decode b_Pf_xAt 4 = .ok (.iload_n 1, 1) := by decide +kernel
theorem d_Pf_xAt_5 : decode b_Pf_xAt 5 = .ok (.iaload, 1) := by decide +kernel
theorem d_Pf_xAt_6 : decode b_Pf_xAt 6 = .ok (.ireturn, 1) := by decide +kernel
theorem d_Pf_yAt_0 : decode b_Pf_yAt 0 = .ok (.aload_n 0, 1) := by decide +kernel
theorem d_Pf_yAt_1 : decode b_Pf_yAt 1 = .ok (.getfield 18, 3) := by decide +kernel
theorem d_Pf_yAt_4 : decode b_Pf_yAt 4 = .ok (.iload_n 1, 1) := by decide +kernel
theorem d_Pf_yAt_5 : decode b_Pf_yAt 5 = .ok (.iaload, 1) := by decide +kernel
theorem d_Pf_yAt_6 : decode b_Pf_yAt 6 = .ok (.ireturn, 1) := by decide +kernel
theorem d_Pf_append_0 : decode b_Pf_append 0 = .ok (.aload_n 0, 1) := by decide +kernel
theorem d_Pf_append_1 : decode b_Pf_append 1 = .ok (.getfield 21, 3) := by decide +kernel
theorem d_Pf_append_4 : decode b_Pf_append 4 = .ok (.bipush 40, 2) := by decide +kernel
theorem d_Pf_append_6 : decode b_Pf_append 6 = .ok (.if_icmp .lt 5, 3) := by decide +kernel
theorem d_Pf_append_9 : decode b_Pf_append 9 = .ok (.iconst (-1), 1) := by decide +kernel
theorem d_Pf_append_10 : decode b_Pf_append 10 = .ok (.ireturn, 1) := by decide +kernel
theorem d_Pf_append_11 : decode b_Pf_append 11 = .ok (.aload_n 0, 1) := by decide +kernel
theorem d_Pf_append_12 : decode b_Pf_append 12 = .ok (.getfield 9, 3) := by decide +kernel
theorem d_Pf_append_15 : decode b_Pf_append 15 = .ok (.aload_n 0, 1) := by decide +kernel
theorem d_Pf_append_16 : decode b_Pf_append 16 = .ok (.getfield 21, 3) := by decide +kernel
theorem d_Pf_append_19 : decode b_Pf_append 19 = .ok (.iload_n 1, 1) := by decide +kernel
theorem d_Pf_append_20 : decode b_Pf_append 20 = .ok (.iastore, 1) := by decide +kernel
theorem d_Pf_append_21 : decode b_Pf_append 21 = .ok (.aload_n 0, 1) := by decide +kernel
theorem d_Pf_append_22 : decode b_Pf_append 22 = .ok (.getfield 15, 3) := by decide +kernel
theorem d_Pf_append_25 : decode b_Pf_append 25 = .ok (.aload_n 0, 1) := by decide +kernel
theorem d_Pf_append_26 : decode b_Pf_append 26 = .ok (.getfield 21, 3) := by decide +kernel
theorem d_Pf_append_29 : decode b_Pf_append 29 = .ok (.iload_n 2, 1) := by decide +kernel
theorem d_Pf_append_30 : decode b_Pf_append 30 = .ok (.iastore, 1) := by decide +kernel
theorem d_Pf_append_31 : decode b_Pf_append 31 = .ok (.aload_n 0, 1) := by decide +kernel
theorem d_Pf_append_32 : decode b_Pf_append 32 = .ok (.getfield 18, 3) := by decide +kernel
theorem d_Pf_append_35 : decode b_Pf_append 35 = .ok (.aload_n 0, 1) := by decide +kernel
theorem d_Pf_append_36 : decode b_Pf_append 36 = .ok (.getfield 21, 3) := by decide +kernel
theorem d_Pf_append_39 : decode b_Pf_append 39 = .ok (.iload_n 3, 1) := by decide +kernel
theorem d_Pf_append_40 : decode b_Pf_append 40 = .ok (.iastore, 1) := by decide +kernel
theorem d_Pf_append_41 : decode b_Pf_append 41 = .ok (.aload_n 0, 1) := by decide +kernel
theorem d_Pf_append_42 : decode b_Pf_append 42 = .ok (.dup, 1) := by decide +kernel
theorem d_Pf_append_43 : decode b_Pf_append 43 = .ok (.getfield 21, 3) := by decide +kernel
theorem d_Pf_append_46 : decode b_Pf_append 46 = .ok (.iconst 1, 1) := by decide +kernel
theorem d_Pf_append_47 : decode b_Pf_append 47 = .ok (.iadd, 1) := by decide +kernel
theorem d_Pf_append_48 : decode b_Pf_append 48 = .ok (.putfield 21, 3) := by decide +kernel
theorem d_Pf_append_51 : decode b_Pf_append 51 = .ok (.aload_n 0, 1) := by decide +kernel
theorem d_Pf_append_52 : decode b_Pf_append 52 = .ok (.getfield 21, 3) := by decide +kernel
theorem d_Pf_append_55 : decode b_Pf_append 55 = .ok (.iconst 1, 1) := by decide +kernel
theorem d_Pf_append_56 : decode b_Pf_append 56 = .ok (.isub, 1) := by decide +kernel
theorem d_Pf_append_57 : decode b_Pf_append 57 = .ok (.ireturn, 1) := by decide +kernel
theorem d_Pf_makeEmpty_0 : decode b_Pf_makeEmpty 0 = .ok (.aload_n 0, 1) := by decide +kernel
theorem d_Pf_makeEmpty_1 : decode b_Pf_makeEmpty 1 = .ok (.getfield 21, 3) := by decide +kernel
theorem d_Pf_makeEmpty_4 : decode b_Pf_makeEmpty 4 = .ok (.istore_n 1, 1) := by decide +kernel
theorem d_Pf_makeEmpty_5 : decode b_Pf_makeEmpty 5 = .ok (.aload_n 0, 1) := by decide +kernel
theorem d_Pf_makeEmpty_6 : decode b_Pf_makeEmpty 6 = .ok (.iconst 0, 1) := by decide +kernel
theorem d_Pf_makeEmpty_7 : decode b_Pf_makeEmpty 7 = .ok (.putfield 21, 3) := by decide +kernel
theorem d_Pf_makeEmpty_10 : decode b_Pf_makeEmpty 10 = .ok (.iload_n 1, 1) := by decide +kernel
theorem d_Pf_makeEmpty_11 : decode b_Pf_makeEmpty 11 = .ok (.ireturn, 1) := by decide +kernel
theorem d_Pf_become_0 : decode b_Pf_become 0 = .ok (.aload_n 1, 1) := by decide +kernel
theorem d_Pf_become_1 : decode b_Pf_become 1 = .ok (.getfield 9, 3) := by decide +kernel
theorem d_Pf_become_4 : decode b_Pf_become 4 = .ok (.iconst 0, 1) := by decide +kernel
theorem d_Pf_become_5 : decode b_Pf_become 5 = .ok (.aload_n 0, 1) := by decide +kernel
theorem d_Pf_become_6 : decode b_Pf_become 6 = .ok (.getfield 9, 3) := by decide +kernel
theorem d_Pf_become_9 : decode b_Pf_become 9 = .ok (.iconst 0, 1) := by decide +kernel
theorem d_Pf_become_10 : decode b_Pf_become 10 = .ok (.aload_n 1, 1) := by decide +kernel
theorem d_Pf_become_11 : decode b_Pf_become 11 = .ok (.getfield 21, 3) := by decide +kernel
theorem d_Pf_become_14 : decode b_Pf_become 14 = .ok (.invokestatic 25, 3) := by decide +kernel
theorem d_Pf_become_17 : decode b_Pf_become 17 = .ok (.aload_n 1, 1) := by decide +kernel
theorem d_Pf_become_18 : decode b_Pf_become 18 = .ok (.getfield 15, 3) := by decide +kernel
theorem d_Pf_become_21 : decode b_Pf_become 21 = .ok (.iconst 0, 1) := by decide +kernel
theorem d_Pf_become_22 : decode b_Pf_become 22 = .ok (.aload_n 0, 1) := by decide +kernel
theorem d_Pf_become_23 : decode b_Pf_become 23 = .ok (.getfield 15, 3) := by decide +kernel
theorem d_Pf_become_26 : decode b_Pf_become 26 = .ok (.iconst 0, 1) := by decide +kernel
theorem d_Pf_become_27 : decode b_Pf_become 27 = .ok (.aload_n 1, 1) := by decide +kernel
theorem d_Pf_become_28 : decode b_Pf_become 28 = .ok (.getfield 21, 3) := by decide +kernel
theorem d_Pf_become_31 : decode b_Pf_become 31 = .ok (.invokestatic 25, 3) := by decide +kernel
theorem d_Pf_become_34 : decode b_Pf_become 34 = .ok (.aload_n 1, 1) := by decide +kernel
theorem d_Pf_become_35 : decode b_Pf_become 35 = .ok (.getfield 18, 3) := by decide +kernel
theorem d_Pf_become_38 : decode b_Pf_become 38 = .ok (.iconst 0, 1) := by decide +kernel
theorem d_Pf_become_39 : decode b_Pf_become 39 = .ok (.aload_n 0, 1) := by decide +kernel
theorem d_Pf_become_40 : decode b_Pf_become 40 = .ok (.getfield 18, 3) := by decide +kernel
theorem d_Pf_become_43 : decode b_Pf_become 43 = .ok (.iconst 0, 1) := by decide +kernel
theorem d_Pf_become_44 : decode b_Pf_become 44 = .ok (.aload_n 1, 1) := by decide +kernel
theorem d_Pf_become_45 : decode b_Pf_become 45 = .ok (.getfield 21, 3) := by decide +kernel
theorem d_Pf_become_48 : decode b_Pf_become 48 = .ok (.invokestatic 25, 3) := by decide +kernel
theorem d_Pf_become_51 : decode b_Pf_become 51 = .ok (.aload_n 0, 1) := by decide +kernel
theorem d_Pf_become_52 : decode b_Pf_become 52 = .ok (.aload_n 1, 1) := by decide +kernel
theorem d_Pf_become_53 : decode b_Pf_become 53 = .ok (.getfield 21, 3) := by decide +kernel
theorem d_Pf_become_56 : decode b_Pf_become 56 = .ok (.putfield 21, 3) := by decide +kernel
theorem d_Pf_become_59 : decode b_Pf_become 59 = .ok (.return_, 1) := by decide +kernel
end
section
theorem d_Pv_init_0 : decode b_Pv_init 0 = .ok (.aload_n 0, 1) := by decide +kernel
theorem d_Pv_init_1 : decode b_Pv_init 1 = .ok (.invokespecial 5, 3) := by decide +kernel
theorem d_Pv_init_4 : decode b_Pv_init 4 = .ok (.aload_n 0, 1) := by decide +kernel
theorem d_Pv_init_5 : decode b_Pv_init 5 = .ok (.new 11, 3) := by decide +kernel
theorem d_Pv_init_8 : decode b_Pv_init 8 = .ok (.dup, 1) := by decide +kernel
theorem d_Pv_init_9 : decode b_Pv_init 9 = .ok (.invokespecial 13, 3) := by decide +kernel
theorem d_Pv_init_12 : decode b_Pv_init 12 = .ok (.putfield 14, 3) := by decide +kernel
theorem d_Pv_init_15 : decode b_Pv_init 15 = .ok (.aload_n 0, 1) := by decide +kernel
theorem d_Pv_init_16 : decode b_Pv_init 16 = .ok (.sipush 756, 3) := by decide +kernel
theorem d_Pv_init_19 : decode b_Pv_init 19 = .ok (.newarray .int, 2) := by decide +kernel
theorem d_Pv_init_21 : decode b_Pv_init 21 = .ok (.putfield 18, 3) := by decide +kernel
theorem d_Pv_init_24 : decode b_Pv_init 24 = .ok (.aload_n 0, 1) := by decide +kernel
theorem d_Pv_init_25 : decode b_Pv_init 25 = .ok (.sipush 756, 3) := by decide +kernel
theorem d_Pv_init_28 : decode b_Pv_init 28 = .ok (.newarray .int, 2) := by decide +kernel
theorem d_Pv_init_30 : decode b_Pv_init 30 = .ok (.putfield 22, 3) := by decide +kernel
theorem d_Pv_init_33 : decode b_Pv_init 33 = .ok (.aload_n 0, 1) := by decide +kernel
theorem d_Pv_init_34 : decode b_Pv_init 34 = .ok (.sipush 756, 3) := by decide +kernel
theorem d_Pv_init_37 : decode b_Pv_init 37 = .ok (.newarray .int, 2) := by decide +kernel
theorem d_Pv_init_39 : decode b_Pv_init 39 = .ok (.putfield 25, 3) := by decide +kernel
theorem d_Pv_init_42 : decode b_Pv_init 42 = .ok (.aload_n 0, 1) := by decide +kernel
theorem d_Pv_init_43 : decode b_Pv_init 43 = .ok (.sipush 756, 3) := by decide +kernel
theorem d_Pv_init_46 : decode b_Pv_init 46 = .ok (.newarray .int, 2) := by decide +kernel
theorem d_Pv_init_48 : decode b_Pv_init 48 = .ok (.putfield 28, 3) := by decide +kernel
theorem d_Pv_init_51 : decode b_Pv_init 51 = .ok (.aload_n 0, 1) := by decide +kernel
theorem d_Pv_init_52 : decode b_Pv_init 52 = .ok (.sipush 756, 3) := by decide +kernel
theorem d_Pv_init_55 : decode b_Pv_init 55 = .ok (.newarray .int, 2) := by decide +kernel
theorem d_Pv_init_57 : decode b_Pv_init 57 = .ok (.putfield 31, 3) := by decide +kernel
theorem d_Pv_init_60 : decode b_Pv_init 60 = .ok (.aload_n 0, 1) := by decide +kernel
theorem d_Pv_init_61 : decode b_Pv_init 61 = .ok (.aload_n 1, 1) := by decide +kernel
theorem d_Pv_init_62 : decode b_Pv_init 62 = .ok (.putfield 34, 3) := by decide +kernel
theorem d_Pv_init_65 : decode b_Pv_init 65 = .ok (.return_, 1) := by decide +kernel
theorem d_Pv_written_0 : decode b_Pv_written 0 = .ok (.aload_n 0, 1) := by decide +kernel
theorem d_Pv_written_1 : decode b_Pv_written 1 = .ok (.getfield 14, 3) := by decide +kernel
theorem d_Pv_written_4 : decode b_Pv_written 4 = .ok (.areturn, 1) := by decide +kernel
theorem d_Pv_writeProof_0 : decode b_Pv_writeProof 0 = .ok (.iload_n 1, 1) := by decide +kernel
theorem d_Pv_writeProof_1 : decode b_Pv_writeProof 1 = .ok (.iload_n 2, 1) := by decide +kernel
theorem d_Pv_writeProof_2 : decode b_Pv_writeProof 2 = .ok (.iload_n 3, 1) := by decide +kernel
theorem d_Pv_writeProof_3 : decode b_Pv_writeProof 3 = .ok (.invokestatic 38, 3) := by decide +kernel
theorem d_Pv_writeProof_6 : decode b_Pv_writeProof 6 = .ok (.istore 5, 2) := by decide +kernel
theorem d_Pv_writeProof_8 : decode b_Pv_writeProof 8 = .ok (.aload_n 0, 1) := by decide +kernel
theorem d_Pv_writeProof_9 : decode b_Pv_writeProof 9 = .ok (.iload 5, 2) := by decide +kernel
theorem d_Pv_writeProof_11 : decode b_Pv_writeProof 11 = .ok (.iload 4, 2) := by decide +kernel
theorem d_Pv_writeProof_13 : decode b_Pv_writeProof 13 = .ok (.invokevirtual 42, 3) := by decide +kernel
theorem d_Pv_writeProof_16 : decode b_Pv_writeProof 16 = .ok (.ifCond .ne 6, 3) := by decide +kernel
theorem d_Pv_writeProof_19 : decode b_Pv_writeProof 19 = .ok (.bipush (-2), 2) := by decide +kernel
theorem d_Pv_writeProof_21 : decode b_Pv_writeProof 21 = .ok (.ireturn, 1) := by decide +kernel
theorem d_Pv_writeProof_22 : decode b_Pv_writeProof 22 = .ok (.aload_n 0, 1) := by decide +kernel
theorem d_Pv_writeProof_23 : decode b_Pv_writeProof 23 = .ok (.getfield 14, 3) := by decide +kernel
theorem d_Pv_writeProof_26 : decode b_Pv_writeProof 26 = .ok (.invokevirtual 46, 3) := by decide +kernel
theorem d_Pv_writeProof_29 : decode b_Pv_writeProof 29 = .ok (.pop, 1) := by decide +kernel
theorem d_Pv_writeProof_30 : decode b_Pv_writeProof 30 = .ok (.aload_n 0, 1) := by decide +kernel
theorem d_Pv_writeProof_31 : decode b_Pv_writeProof 31 = .ok (.getfield 31, 3) := by decide +kernel
theorem d_Pv_writeProof_34 : decode b_Pv_writeProof 34 = .ok (.iconst (-1), 1) := by decide +kernel
theorem d_Pv_writeProof_35 : decode b_Pv_writeProof 35 = .ok (.invokestatic 50, 3) := by decide +kernel
theorem d_Pv_writeProof_38 : decode b_Pv_writeProof 38 = .ok (.aload_n 0, 1) := by decide +kernel
theorem d_Pv_writeProof_39 : decode b_Pv_writeProof 39 = .ok (.iload 5, 2) := by decide +kernel
theorem d_Pv_writeProof_41 : decode b_Pv_writeProof 41 = .ok (.iconst 1, 1) := by decide +kernel
theorem d_Pv_writeProof_42 : decode b_Pv_writeProof 42 = .ok (.invokevirtual 56, 3) := by decide +kernel
theorem d_Pv_writeProof_45 : decode b_Pv_writeProof 45 = .ok (.ifCond .eq 13, 3) := by decide +kernel
theorem d_Pv_writeProof_48 : decode b_Pv_writeProof 48 = .ok (.aload_n 0, 1) := by decide +kernel
theorem d_Pv_writeProof_49 : decode b_Pv_writeProof 49 = .ok (.getfield 14, 3) := by decide +kernel
theorem d_Pv_writeProof_52 : decode b_Pv_writeProof 52 = .ok (.invokevirtual 59, 3) := by decide +kernel
theorem d_Pv_writeProof_55 : decode b_Pv_writeProof 55 = .ok (.goto 5, 3) := by decide +kernel
theorem d_Pv_writeProof_58 : decode b_Pv_writeProof 58 = .ok (.bipush (-3), 2) := by decide +kernel
theorem d_Pv_writeProof_60 : decode b_Pv_writeProof 60 = .ok (.ireturn, 1) := by decide +kernel
theorem d_Pv_finds_0 : decode b_Pv_finds 0 = .ok (.aload_n 0, 1) := by decide +kernel
theorem d_Pv_finds_1 : decode b_Pv_finds 1 = .ok (.getfield 18, 3) := by decide +kernel
theorem d_Pv_finds_4 : decode b_Pv_finds 4 = .ok (.iconst 0, 1) := by decide +kernel
theorem d_Pv_finds_5 : decode b_Pv_finds 5 = .ok (.invokestatic 50, 3) := by decide +kernel
theorem d_Pv_finds_8 : decode b_Pv_finds 8 = .ok (.aload_n 0, 1) := by decide +kernel
theorem d_Pv_finds_9 : decode b_Pv_finds 9 = .ok (.iconst 1, 1) := by decide +kernel
theorem d_Pv_finds_10 : decode b_Pv_finds 10 = .ok (.putfield 62, 3) := by decide +kernel
theorem d_Pv_finds_13 : decode b_Pv_finds 13 = .ok (.aload_n 0, 1) := by decide +kernel
theorem d_Pv_finds_14 : decode b_Pv_finds 14 = .ok (.iconst 0, 1) := by decide +kernel
theorem d_Pv_finds_15 : decode b_Pv_finds 15 = .ok (.putfield 66, 3) := by decide +kernel
theorem d_Pv_finds_18 : decode b_Pv_finds 18 = .ok (.aload_n 0, 1) := by decide +kernel
theorem d_Pv_finds_19 : decode b_Pv_finds 19 = .ok (.iload_n 2, 1) := by decide +kernel
theorem d_Pv_finds_20 : decode b_Pv_finds 20 = .ok (.invokevirtual 70, 3) := by decide +kernel
theorem d_Pv_finds_23 : decode b_Pv_finds 23 = .ok (.aload_n 0, 1) := by decide +kernel
theorem d_Pv_finds_24 : decode b_Pv_finds 24 = .ok (.getfield 18, 3) := by decide +kernel
theorem d_Pv_finds_27 : decode b_Pv_finds 27 = .ok (.iload_n 1, 1) := by decide +kernel
theorem d_Pv_finds_28 : decode b_Pv_finds 28 = .ok (.iaload, 1) := by decide +kernel
theorem d_Pv_finds_29 : decode b_Pv_finds 29 = .ok (.ifCond .ne 42, 3) := by decide +kernel
theorem d_Pv_finds_32 : decode b_Pv_finds 32 = .ok (.aload_n 0, 1) := by decide +kernel
theorem d_Pv_finds_33 : decode b_Pv_finds 33 = .ok (.getfield 66, 3) := by decide +kernel
theorem d_Pv_finds_36 : decode b_Pv_finds 36 = .ok (.ifCond .eq 35, 3) := by decide +kernel
theorem d_Pv_finds_39 : decode b_Pv_finds 39 = .ok (.aload_n 0, 1) := by decide +kernel
theorem d_Pv_finds_40 : decode b_Pv_finds 40 = .ok (.getfield 62, 3) := by decide +kernel
theorem d_Pv_finds_43 : decode b_Pv_finds 43 = .ok (.sipush 756, 3) := by decide +kernel
theorem d_Pv_finds_46 : decode b_Pv_finds 46 = .ok (.if_icmp .gt 25, 3) := by decide +kernel
theorem d_Pv_finds_49 : decode b_Pv_finds 49 = .ok (.aload_n 0, 1) := by decide +kernel
theorem d_Pv_finds_50 : decode b_Pv_finds 50 = .ok (.dup, 1) := by decide +kernel
theorem d_Pv_finds_51 : decode b_Pv_finds 51 = .ok (.getfield 62, 3) := by decide +kernel
theorem d_Pv_finds_54 : decode b_Pv_finds 54 = .ok (.iconst 1, 1) := by decide +kernel
theorem d_Pv_finds_55 : decode b_Pv_finds 55 = .ok (.iadd, 1) := by decide +kernel
theorem d_Pv_finds_56 : decode b_Pv_finds 56 = .ok (.putfield 62, 3) := by decide +kernel
theorem d_Pv_finds_59 : decode b_Pv_finds 59 = .ok (.aload_n 0, 1) := by decide +kernel
theorem d_Pv_finds_60 : decode b_Pv_finds 60 = .ok (.iconst 0, 1) := by decide +kernel
theorem d_Pv_finds_61 : decode b_Pv_finds 61 = .ok (.putfield 66, 3) := by decide +kernel
theorem d_Pv_finds_64 : decode b_Pv_finds 64 = .ok (.aload_n 0, 1) := by decide +kernel
theorem d_Pv_finds_65 : decode b_Pv_finds 65 = .ok (.invokevirtual 74, 3) := by decide +kernel
theorem d_Pv_finds_68 : decode b_Pv_finds 68 = .ok (.goto (-45), 3) := by decide +kernel
theorem d_Pv_finds_71 : decode b_Pv_finds 71 = .ok (.aload_n 0, 1) := by decide +kernel
theorem d_Pv_finds_72 : decode b_Pv_finds 72 = .ok (.getfield 18, 3) := by decide +kernel
theorem d_Pv_finds_75 : decode b_Pv_finds 75 = .ok (.iload_n 1, 1) := by decide +kernel
theorem d_Pv_finds_76 : decode b_Pv_finds 76 = .ok (.iaload, 1) := by decide +kernel
theorem d_Pv_finds_77 : decode b_Pv_finds 77 = .ok (.ifCond .eq 7, 3) := by decide +kernel
theorem d_Pv_finds_80 : decode b_Pv_finds 80 = .ok (.iconst 1, 1) := by decide +kernel
theorem d_Pv_finds_81 : decode b_Pv_finds 81 = .ok (.goto 4, 3) := by decide +kernel
theorem d_Pv_finds_84 : decode b_Pv_finds 84 = .ok (.iconst 0, 1) := by decide +kernel
theorem d_Pv_finds_85 : decode b_Pv_finds 85 = .ok (.ireturn, 1) := by decide +kernel
theorem d_Pv_findWhatFollows_0 : decode b_Pv_findWhatFollows 0 = .ok (.aload_n 0, 1) := by decide +kernel
theorem d_Pv_findWhatFollows_1 : decode b_Pv_findWhatFollows 1 = .ok (.invokevirtual 77, 3) := by decide +kernel
theorem d_Pv_findWhatFollows_4 : decode b_Pv_findWhatFollows 4 = .ok (.aload_n 0, 1) := by decide +kernel
theorem d_Pv_findWhatFollows_5 : decode b_Pv_findWhatFollows 5 = .ok (.invokevirtual 80, 3) := by decide +kernel
theorem d_Pv_findWhatFollows_8 : decode b_Pv_findWhatFollows 8 = .ok (.aload_n 0, 1) := by decide +kernel
theorem d_Pv_findWhatFollows_9 : decode b_Pv_findWhatFollows 9 = .ok (.invokevirtual 83, 3) := by decide +kernel
theorem d_Pv_findWhatFollows_12 : decode b_Pv_findWhatFollows 12 = .ok (.aload_n 0, 1) := by decide +kernel
theorem d_Pv_findWhatFollows_13 : decode b_Pv_findWhatFollows 13 = .ok (.invokevirtual 86, 3) := by decide +kernel
theorem d_Pv_findWhatFollows_16 : decode b_Pv_findWhatFollows 16 = .ok (.aload_n 0, 1) := by decide +kernel
theorem d_Pv_findWhatFollows_17 : decode b_Pv_findWhatFollows 17 = .ok (.invokevirtual 89, 3) := by decide +kernel
theorem d_Pv_findWhatFollows_20 : decode b_Pv_findWhatFollows 20 = .ok (.aload_n 0, 1) := by decide +kernel
theorem d_Pv_findWhatFollows_21 : decode b_Pv_findWhatFollows 21 = .ok (.invokevirtual 92, 3) := by decide +kernel
theorem d_Pv_findWhatFollows_24 : decode b_Pv_findWhatFollows 24 = .ok (.return_, 1) := by decide +kernel
theorem d_Pv_findWhatIsSaid_0 : decode b_Pv_findWhatIsSaid 0 = .ok (.iconst 1, 1) := by decide +kernel
theorem d_Pv_findWhatIsSaid_1 : decode b_Pv_findWhatIsSaid 1 = .ok (.istore_n 2, 1) := by decide +kernel
theorem d_Pv_findWhatIsSaid_2 : decode b_Pv_findWhatIsSaid 2 = .ok (.iload_n 2, 1) := by decide +kernel
theorem d_Pv_findWhatIsSaid_3 : decode b_Pv_findWhatIsSaid 3 = .ok (.aload_n 0, 1) := by decide +kernel
theorem d_Pv_findWhatIsSaid_4 : decode b_Pv_findWhatIsSaid 4 = .ok (.getfield 34, 3) := by decide +kernel
theorem d_Pv_findWhatIsSaid_7 : decode b_Pv_findWhatIsSaid 7 = .ok (.invokevirtual 95, 3) := by decide +kernel
theorem d_Pv_findWhatIsSaid_10 : decode b_Pv_findWhatIsSaid 10 = .ok (.if_icmp .gt 47, 3) := by decide +kernel
theorem d_Pv_findWhatIsSaid_13 : decode b_Pv_findWhatIsSaid 13 = .ok (.aload_n 0, 1) := by decide +kernel
theorem d_Pv_findWhatIsSaid_14 : decode b_Pv_findWhatIsSaid 14 = .ok (.getfield 34, 3) := by decide +kernel
theorem d_Pv_findWhatIsSaid_17 : decode b_Pv_findWhatIsSaid 17 = .ok (.iload_n 2, 1) := by decide +kernel
theorem d_Pv_findWhatIsSaid_18 : decode b_Pv_findWhatIsSaid 18 = .ok (.invokevirtual 100, 3) := by decide +kernel
theorem d_Pv_findWhatIsSaid_21 : decode b_Pv_findWhatIsSaid 21 = .ok (.astore_n 3, 1) := by decide +kernel
theorem d_Pv_findWhatIsSaid_22 : decode b_Pv_findWhatIsSaid 22 = .ok (.aload_n 3, 1) := by decide +kernel
theorem d_Pv_findWhatIsSaid_23 : decode b_Pv_findWhatIsSaid 23 = .ok (.ifnonnull 7, 3) := by decide +kernel
theorem d_Pv_findWhatIsSaid_26 : decode b_Pv_findWhatIsSaid 26 = .ok (.iconst (-1), 1) := by decide +kernel
theorem d_Pv_findWhatIsSaid_27 : decode b_Pv_findWhatIsSaid 27 = .ok (.goto 8, 3) := by decide +kernel
theorem d_Pv_findWhatIsSaid_30 : decode b_Pv_findWhatIsSaid 30 = .ok (.aload_n 3, 1) := by decide +kernel
theorem d_Pv_findWhatIsSaid_31 : decode b_Pv_findWhatIsSaid 31 = .ok (.iload_n 1, 1) := by decide +kernel
theorem d_Pv_findWhatIsSaid_32 : decode b_Pv_findWhatIsSaid 32 = .ok (.invokestatic 104, 3) := by decide +kernel
theorem d_Pv_findWhatIsSaid_35 : decode b_Pv_findWhatIsSaid 35 = .ok (.istore 4, 2) := by decide +kernel
theorem d_Pv_findWhatIsSaid_37 : decode b_Pv_findWhatIsSaid 37 = .ok (.iload 4, 2) := by decide +kernel
theorem d_Pv_findWhatIsSaid_39 : decode b_Pv_findWhatIsSaid 39 = .ok (.ifCond .lt 12, 3) := by decide +kernel
theorem d_Pv_findWhatIsSaid_42 : decode b_Pv_findWhatIsSaid 42 = .ok (.aload_n 0, 1) := by decide +kernel
theorem d_Pv_findWhatIsSaid_43 : decode b_Pv_findWhatIsSaid 43 = .ok (.iload 4, 2) := by decide +kernel
theorem d_Pv_findWhatIsSaid_45 : decode b_Pv_findWhatIsSaid 45 = .ok (.iconst 1, 1) := by decide +kernel
theorem d_Pv_findWhatIsSaid_46 : decode b_Pv_findWhatIsSaid 46 = .ok (.iload_n 2, 1) := by decide +kernel
theorem d_Pv_findWhatIsSaid_47 : decode b_Pv_findWhatIsSaid 47 = .ok (.iconst 0, 1) := by decide +kernel
theorem d_Pv_findWhatIsSaid_48 : decode b_Pv_findWhatIsSaid 48 = .ok (.invokevirtual 108, 3) := by decide +kernel
theorem d_Pv_findWhatIsSaid_51 : decode b_Pv_findWhatIsSaid 51 = .ok (.iinc 2 1, 3) := by decide +kernel
theorem d_Pv_findWhatIsSaid_54 : decode b_Pv_findWhatIsSaid 54 = .ok (.goto (-52), 3) := by decide +kernel
theorem d_Pv_findWhatIsSaid_57 : decode b_Pv_findWhatIsSaid 57 = .ok (.return_, 1) := by decide +kernel
theorem d_Pv_factSaidBy_0 : decode b_Pv_factSaidBy 0 = .ok (.aload_n 0, 1) := by decide +kernel
theorem d_Pv_factSaidBy_1 : decode b_Pv_factSaidBy 1 = .ok (.getfield 112, 3) := by decide +kernel
theorem d_Pv_factSaidBy_4 : decode b_Pv_factSaidBy 4 = .ok (.astore_n 2, 1) := by decide +kernel
theorem d_Pv_factSaidBy_5 : decode b_Pv_factSaidBy 5 = .ok (.aload_n 0, 1) := by decide +kernel
theorem d_Pv_factSaidBy_6 : decode b_Pv_factSaidBy 6 = .ok (.getfield 117, 3) := by decide +kernel
theorem d_Pv_factSaidBy_9 : decode b_Pv_factSaidBy 9 = .ok (.tableswitch 91 0 2 #[27, 52, 63], 27) := by decide +kernel
theorem d_Pv_factSaidBy_36 : decode b_Pv_factSaidBy 36 = .ok (.aload_n 2, 1) := by decide +kernel
theorem d_Pv_factSaidBy_37 : decode b_Pv_factSaidBy 37 = .ok (.iconst 2, 1) := by decide +kernel
theorem d_Pv_factSaidBy_38 : decode b_Pv_factSaidBy 38 = .ok (.iaload, 1) := by decide +kernel
theorem d_Pv_factSaidBy_39 : decode b_Pv_factSaidBy 39 = .ok (.iload_n 1, 1) := by decide +kernel
theorem d_Pv_factSaidBy_40 : decode b_Pv_factSaidBy 40 = .ok (.if_icmp .ne 19, 3) := by decide +kernel
theorem d_Pv_factSaidBy_43 : decode b_Pv_factSaidBy 43 = .ok (.aload_n 0, 1) := by decide +kernel
theorem d_Pv_factSaidBy_44 : decode b_Pv_factSaidBy 44 = .ok (.getfield 120, 3) := by decide +kernel
theorem d_Pv_factSaidBy_47 : decode b_Pv_factSaidBy 47 = .ok (.aload_n 2, 1) := by decide +kernel
theorem d_Pv_factSaidBy_48 : decode b_Pv_factSaidBy 48 = .ok (.iconst 0, 1) := by decide +kernel
theorem d_Pv_factSaidBy_49 : decode b_Pv_factSaidBy 49 = .ok (.iaload, 1) := by decide +kernel
theorem d_Pv_factSaidBy_50 : decode b_Pv_factSaidBy 50 = .ok (.aload_n 2, 1) := by decide +kernel
theorem d_Pv_factSaidBy_51 : decode b_Pv_factSaidBy 51 = .ok (.iconst 1, 1) := by decide +kernel
theorem d_Pv_factSaidBy_52 : decode b_Pv_factSaidBy 52 = .ok (.iaload, 1) := by decide +kernel
theorem d_Pv_factSaidBy_53 : decode b_Pv_factSaidBy 53 = .ok (.invokestatic 38, 3) := by decide +kernel
theorem d_Pv_factSaidBy_56 : decode b_Pv_factSaidBy 56 = .ok (.goto 4, 3) := by decide +kernel
theorem d_Pv_factSaidBy_59 : decode b_Pv_factSaidBy 59 = .ok (.iconst (-1), 1) := by decide +kernel
theorem d_Pv_factSaidBy_60 : decode b_Pv_factSaidBy 60 = .ok (.ireturn, 1) := by decide +kernel
theorem d_Pv_factSaidBy_61 : decode b_Pv_factSaidBy 61 = .ok (.aload_n 2, 1) := by decide +kernel
theorem d_Pv_factSaidBy_62 : decode b_Pv_factSaidBy 62 = .ok (.iconst 0, 1) := by decide +kernel
theorem d_Pv_factSaidBy_63 : decode b_Pv_factSaidBy 63 = .ok (.iaload, 1) := by decide +kernel
theorem d_Pv_factSaidBy_64 : decode b_Pv_factSaidBy 64 = .ok (.aload_n 0, 1) := by decide +kernel
theorem d_Pv_factSaidBy_65 : decode b_Pv_factSaidBy 65 = .ok (.getfield 120, 3) := by decide +kernel
theorem d_Pv_factSaidBy_68 : decode b_Pv_factSaidBy 68 = .ok (.invokestatic 123, 3) := by decide +kernel
theorem d_Pv_factSaidBy_71 : decode b_Pv_factSaidBy 71 = .ok (.ireturn, 1) := by decide +kernel
theorem d_Pv_factSaidBy_72 : decode b_Pv_factSaidBy 72 = .ok (.aload_n 2, 1) := by decide +kernel
theorem d_Pv_factSaidBy_73 : decode b_Pv_factSaidBy 73 = .ok (.iconst 2, 1) := by decide +kernel
theorem d_Pv_factSaidBy_74 : decode b_Pv_factSaidBy 74 = .ok (.iaload, 1) := by decide +kernel
theorem d_Pv_factSaidBy_75 : decode b_Pv_factSaidBy 75 = .ok (.iload_n 1, 1) := by decide +kernel
theorem d_Pv_factSaidBy_76 : decode b_Pv_factSaidBy 76 = .ok (.if_icmp .ne 22, 3) := by decide +kernel
theorem d_Pv_factSaidBy_79 : decode b_Pv_factSaidBy 79 = .ok (.aload_n 0, 1) := by decide +kernel
theorem d_Pv_factSaidBy_80 : decode b_Pv_factSaidBy 80 = .ok (.getfield 120, 3) := by decide +kernel
theorem d_Pv_factSaidBy_83 : decode b_Pv_factSaidBy 83 = .ok (.aload_n 2, 1) := by decide +kernel
theorem d_Pv_factSaidBy_84 : decode b_Pv_factSaidBy 84 = .ok (.iconst 0, 1) := by decide +kernel
theorem d_Pv_factSaidBy_85 : decode b_Pv_factSaidBy 85 = .ok (.iaload, 1) := by decide +kernel
theorem d_Pv_factSaidBy_86 : decode b_Pv_factSaidBy 86 = .ok (.aload_n 2, 1) := by decide +kernel
theorem d_Pv_factSaidBy_87 : decode b_Pv_factSaidBy 87 = .ok (.iconst 1, 1) := by decide +kernel
theorem d_Pv_factSaidBy_88 : decode b_Pv_factSaidBy 88 = .ok (.iaload, 1) := by decide +kernel
theorem d_Pv_factSaidBy_89 : decode b_Pv_factSaidBy 89 = .ok (.aload_n 2, 1) := by decide +kernel
theorem d_Pv_factSaidBy_90 : decode b_Pv_factSaidBy 90 = .ok (.iconst 3, 1) := by decide +kernel
theorem d_Pv_factSaidBy_91 : decode b_Pv_factSaidBy 91 = .ok (.iaload, 1) := by decide +kernel
theorem d_Pv_factSaidBy_92 : decode b_Pv_factSaidBy 92 = .ok (.invokestatic 127, 3) := by decide +kernel
theorem d_Pv_factSaidBy_95 : decode b_Pv_factSaidBy 95 = .ok (.goto 4, 3) := by decide +kernel
theorem d_Pv_factSaidBy_98 : decode b_Pv_factSaidBy 98 = .ok (.iconst (-1), 1) := by decide +kernel
theorem d_Pv_factSaidBy_99 : decode b_Pv_factSaidBy 99 = .ok (.ireturn, 1) := by decide +kernel
theorem d_Pv_factSaidBy_100 : decode b_Pv_factSaidBy 100 = .ok (.iconst (-1), 1) := by decide +kernel
theorem d_Pv_factSaidBy_101 : decode b_Pv_factSaidBy 101 = .ok (.ireturn, 1) := by decide +kernel
theorem d_Pv_findMayByVoice_0 : decode b_Pv_findMayByVoice 0 = .ok (.iconst 0, 1) := by decide +kernel
theorem d_Pv_findMayByVoice_1 : decode b_Pv_findMayByVoice 1 = .ok (.istore_n 1, 1) := by decide +kernel
theorem d_Pv_findMayByVoice_2 : decode b_Pv_findMayByVoice 2 = .ok (.iload_n 1, 1) := by decide +kernel
theorem d_Pv_findMayByVoice_3 : decode b_Pv_findMayByVoice 3 = .ok (.bipush 6, 2) := by decide +kernel
theorem d_Pv_findMayByVoice_5 : decode b_Pv_findMayByVoice 5 = .ok (.if_icmp .ge 62, 3) := by decide +kernel
theorem d_Pv_findMayByVoice_8 : decode b_Pv_findMayByVoice 8 = .ok (.iconst 0, 1) := by decide +kernel
theorem d_Pv_findMayByVoice_9 : decode b_Pv_findMayByVoice 9 = .ok (.istore_n 2, 1) := by decide +kernel
theorem d_Pv_findMayByVoice_10 : decode b_Pv_findMayByVoice 10 = .ok (.iload_n 2, 1) := by decide +kernel
theorem d_Pv_findMayByVoice_11 : decode b_Pv_findMayByVoice 11 = .ok (.bipush 6, 2) := by decide +kernel
theorem d_Pv_findMayByVoice_13 : decode b_Pv_findMayByVoice 13 = .ok (.if_icmp .ge 48, 3) := by decide +kernel
theorem d_Pv_findMayByVoice_16 : decode b_Pv_findMayByVoice 16 = .ok (.iload_n 1, 1) := by decide +kernel
theorem d_Pv_findMayByVoice_17 : decode b_Pv_findMayByVoice 17 = .ok (.iload_n 2, 1) := by decide +kernel
theorem d_Pv_findMayByVoice_18 : decode b_Pv_findMayByVoice 18 = .ok (.invokestatic 123, 3) := by decide +kernel
theorem d_Pv_findMayByVoice_21 : decode b_Pv_findMayByVoice 21 = .ok (.istore_n 3, 1) := by decide +kernel
theorem d_Pv_findMayByVoice_22 : decode b_Pv_findMayByVoice 22 = .ok (.aload_n 0, 1) := by decide +kernel
theorem d_Pv_findMayByVoice_23 : decode b_Pv_findMayByVoice 23 = .ok (.iload_n 3, 1) := by decide +kernel
theorem d_Pv_findMayByVoice_24 : decode b_Pv_findMayByVoice 24 = .ok (.invokevirtual 131, 3) := by decide +kernel
theorem d_Pv_findMayByVoice_27 : decode b_Pv_findMayByVoice 27 = .ok (.ifCond .eq 28, 3) := by decide +kernel
theorem d_Pv_findMayByVoice_30 : decode b_Pv_findMayByVoice 30 = .ok (.iconst 0, 1) := by decide +kernel
theorem d_Pv_findMayByVoice_31 : decode b_Pv_findMayByVoice 31 = .ok (.istore 4, 2) := by decide +kernel
theorem d_Pv_findMayByVoice_33 : decode b_Pv_findMayByVoice 33 = .ok (.iload 4, 2) := by decide +kernel
theorem d_Pv_findMayByVoice_35 : decode b_Pv_findMayByVoice 35 = .ok (.iconst 4, 1) := by decide +kernel
theorem d_Pv_findMayByVoice_36 : decode b_Pv_findMayByVoice 36 = .ok (.if_icmp .ge 19, 3) := by decide +kernel
theorem d_Pv_findMayByVoice_39 : decode b_Pv_findMayByVoice 39 = .ok (.aload_n 0, 1) := by decide +kernel
theorem d_Pv_findMayByVoice_40 : decode b_Pv_findMayByVoice 40 = .ok (.iconst 2, 1) := by decide +kernel
theorem d_Pv_findMayByVoice_41 : decode b_Pv_findMayByVoice 41 = .ok (.iload_n 3, 1) := by decide +kernel
theorem d_Pv_findMayByVoice_42 : decode b_Pv_findMayByVoice 42 = .ok (.iload_n 2, 1) := by decide +kernel
theorem d_Pv_findMayByVoice_43 : decode b_Pv_findMayByVoice 43 = .ok (.iload_n 1, 1) := by decide +kernel
theorem d_Pv_findMayByVoice_44 : decode b_Pv_findMayByVoice 44 = .ok (.iload 4, 2) := by decide +kernel
theorem d_Pv_findMayByVoice_46 : decode b_Pv_findMayByVoice 46 = .ok (.invokevirtual 135, 3) := by decide +kernel
theorem d_Pv_findMayByVoice_49 : decode b_Pv_findMayByVoice 49 = .ok (.iinc 4 1, 3) := by decide +kernel
theorem d_Pv_findMayByVoice_52 : decode b_Pv_findMayByVoice 52 = .ok (.goto (-19), 3) := by decide +kernel
theorem d_Pv_findMayByVoice_55 : decode b_Pv_findMayByVoice 55 = .ok (.iinc 2 1, 3) := by decide +kernel
theorem d_Pv_findMayByVoice_58 : decode b_Pv_findMayByVoice 58 = .ok (.goto (-48), 3) := by decide +kernel
theorem d_Pv_findMayByVoice_61 : decode b_Pv_findMayByVoice 61 = .ok (.iinc 1 1, 3) := by decide +kernel
theorem d_Pv_findMayByVoice_64 : decode b_Pv_findMayByVoice 64 = .ok (.goto (-62), 3) := by decide +kernel
theorem d_Pv_findMayByVoice_67 : decode b_Pv_findMayByVoice 67 = .ok (.return_, 1) := by decide +kernel
theorem d_Pv_findMayByTrust_0 : decode b_Pv_findMayByTrust 0 = .ok (.iconst 0, 1) := by decide +kernel
theorem d_Pv_findMayByTrust_1 : decode b_Pv_findMayByTrust 1 = .ok (.istore_n 1, 1) := by decide +kernel
theorem d_Pv_findMayByTrust_2 : decode b_Pv_findMayByTrust 2 = .ok (.iload_n 1, 1) := by decide +kernel
theorem d_Pv_findMayByTrust_3 : decode b_Pv_findMayByTrust 3 = .ok (.bipush 6, 2) := by decide +kernel
theorem d_Pv_findMayByTrust_5 : decode b_Pv_findMayByTrust 5 = .ok (.if_icmp .ge 80, 3) := by decide +kernel
theorem d_Pv_findMayByTrust_8 : decode b_Pv_findMayByTrust 8 = .ok (.iconst 0, 1) := by decide +kernel
theorem d_Pv_findMayByTrust_9 : decode b_Pv_findMayByTrust 9 = .ok (.istore_n 2, 1) := by decide +kernel
theorem d_Pv_findMayByTrust_10 : decode b_Pv_findMayByTrust 10 = .ok (.iload_n 2, 1) := by decide +kernel
theorem d_Pv_findMayByTrust_11 : decode b_Pv_findMayByTrust 11 = .ok (.bipush 6, 2) := by decide +kernel
theorem d_Pv_findMayByTrust_13 : decode b_Pv_findMayByTrust 13 = .ok (.if_icmp .ge 66, 3) := by decide +kernel
theorem d_Pv_findMayByTrust_16 : decode b_Pv_findMayByTrust 16 = .ok (.iconst 0, 1) := by decide +kernel
theorem d_Pv_findMayByTrust_17 : decode b_Pv_findMayByTrust 17 = .ok (.istore_n 3, 1) := by decide +kernel
theorem d_Pv_findMayByTrust_18 : decode b_Pv_findMayByTrust 18 = .ok (.iload_n 3, 1) := by decide +kernel
theorem d_Pv_findMayByTrust_19 : decode b_Pv_findMayByTrust 19 = .ok (.iconst 4, 1) := by decide +kernel
theorem d_Pv_findMayByTrust_20 : decode b_Pv_findMayByTrust 20 = .ok (.if_icmp .ge 53, 3) := by decide +kernel
theorem d_Pv_findMayByTrust_23 : decode b_Pv_findMayByTrust 23 = .ok (.iconst 0, 1) := by decide +kernel
theorem d_Pv_findMayByTrust_24 : decode b_Pv_findMayByTrust 24 = .ok (.istore 4, 2) := by decide +kernel
theorem d_Pv_findMayByTrust_26 : decode b_Pv_findMayByTrust 26 = .ok (.iload 4, 2) := by decide +kernel
theorem d_Pv_findMayByTrust_28 : decode b_Pv_findMayByTrust 28 = .ok (.iconst 4, 1) := by decide +kernel
theorem d_Pv_findMayByTrust_29 : decode b_Pv_findMayByTrust 29 = .ok (.if_icmp .ge 38, 3) := by decide +kernel
theorem d_Pv_findMayByTrust_32 : decode b_Pv_findMayByTrust 32 = .ok (.iload_n 2, 1) := by decide +kernel
theorem d_Pv_findMayByTrust_33 : decode b_Pv_findMayByTrust 33 = .ok (.iload_n 1, 1) := by decide +kernel
theorem d_Pv_findMayByTrust_34 : decode b_Pv_findMayByTrust 34 = .ok (.iload_n 3, 1) := by decide +kernel
theorem d_Pv_findMayByTrust_35 : decode b_Pv_findMayByTrust 35 = .ok (.iload 4, 2) := by decide +kernel
theorem d_Pv_findMayByTrust_37 : decode b_Pv_findMayByTrust 37 = .ok (.invokestatic 127, 3) := by decide +kernel
theorem d_Pv_findMayByTrust_40 : decode b_Pv_findMayByTrust 40 = .ok (.istore 5, 2) := by decide +kernel
theorem d_Pv_findMayByTrust_42 : decode b_Pv_findMayByTrust 42 = .ok (.aload_n 0, 1) := by decide +kernel
theorem d_Pv_findMayByTrust_43 : decode b_Pv_findMayByTrust 43 = .ok (.iload 5, 2) := by decide +kernel
theorem d_Pv_findMayByTrust_45 : decode b_Pv_findMayByTrust 45 = .ok (.invokevirtual 131, 3) := by decide +kernel
theorem d_Pv_findMayByTrust_48 : decode b_Pv_findMayByTrust 48 = .ok (.ifCond .eq 13, 3) := by decide +kernel
theorem d_Pv_findMayByTrust_51 : decode b_Pv_findMayByTrust 51 = .ok (.aload_n 0, 1) := by decide +kernel
theorem d_Pv_findMayByTrust_52 : decode b_Pv_findMayByTrust 52 = .ok (.iconst 3, 1) := by decide +kernel
theorem d_Pv_findMayByTrust_53 : decode b_Pv_findMayByTrust 53 = .ok (.iload 5, 2) := by decide +kernel
theorem d_Pv_findMayByTrust_55 : decode b_Pv_findMayByTrust 55 = .ok (.iload_n 2, 1) := by decide +kernel
theorem d_Pv_findMayByTrust_56 : decode b_Pv_findMayByTrust 56 = .ok (.iload_n 1, 1) := by decide +kernel
theorem d_Pv_findMayByTrust_57 : decode b_Pv_findMayByTrust 57 = .ok (.iload_n 3, 1) := by decide +kernel
theorem d_Pv_findMayByTrust_58 : decode b_Pv_findMayByTrust 58 = .ok (.invokevirtual 135, 3) := by decide +kernel
theorem d_Pv_findMayByTrust_61 : decode b_Pv_findMayByTrust 61 = .ok (.iinc 4 1, 3) := by decide +kernel
theorem d_Pv_findMayByTrust_64 : decode b_Pv_findMayByTrust 64 = .ok (.goto (-38), 3) := by decide +kernel
theorem d_Pv_findMayByTrust_67 : decode b_Pv_findMayByTrust 67 = .ok (.iinc 3 1, 3) := by decide +kernel
theorem d_Pv_findMayByTrust_70 : decode b_Pv_findMayByTrust 70 = .ok (.goto (-52), 3) := by decide +kernel
theorem d_Pv_findMayByTrust_73 : decode b_Pv_findMayByTrust 73 = .ok (.iinc 2 1, 3) := by decide +kernel
theorem d_Pv_findMayByTrust_76 : decode b_Pv_findMayByTrust 76 = .ok (.goto (-66), 3) := by decide +kernel
theorem d_Pv_findMayByTrust_79 : decode b_Pv_findMayByTrust 79 = .ok (.iinc 1 1, 3) := by decide +kernel
theorem d_Pv_findMayByTrust_82 : decode b_Pv_findMayByTrust 82 = .ok (.goto (-80), 3) := by decide +kernel
theorem d_Pv_findMayByTrust_85 : decode b_Pv_findMayByTrust 85 = .ok (.return_, 1) := by decide +kernel
theorem d_Pv_handOnMay_0 : decode b_Pv_handOnMay 0 = .ok (.iconst 0, 1) := by decide +kernel
theorem d_Pv_handOnMay_1 : decode b_Pv_handOnMay 1 = .ok (.istore 6, 2) := by decide +kernel
theorem d_Pv_handOnMay_3 : decode b_Pv_handOnMay 3 = .ok (.iload 6, 2) := by decide +kernel
theorem d_Pv_handOnMay_5 : decode b_Pv_handOnMay 5 = .ok (.bipush 6, 2) := by decide +kernel
theorem d_Pv_handOnMay_7 : decode b_Pv_handOnMay 7 = .ok (.if_icmp .ge 45, 3) := by decide +kernel
theorem d_Pv_handOnMay_10 : decode b_Pv_handOnMay 10 = .ok (.iload 4, 2) := by decide +kernel
theorem d_Pv_handOnMay_12 : decode b_Pv_handOnMay 12 = .ok (.iload 6, 2) := by decide +kernel
theorem d_Pv_handOnMay_14 : decode b_Pv_handOnMay 14 = .ok (.iload 5, 2) := by decide +kernel
theorem d_Pv_handOnMay_16 : decode b_Pv_handOnMay 16 = .ok (.invokestatic 38, 3) := by decide +kernel
theorem d_Pv_handOnMay_19 : decode b_Pv_handOnMay 19 = .ok (.istore 7, 2) := by decide +kernel
theorem d_Pv_handOnMay_21 : decode b_Pv_handOnMay 21 = .ok (.aload_n 0, 1) := by decide +kernel
theorem d_Pv_handOnMay_22 : decode b_Pv_handOnMay 22 = .ok (.iload 7, 2) := by decide +kernel
theorem d_Pv_handOnMay_24 : decode b_Pv_handOnMay 24 = .ok (.invokevirtual 131, 3) := by decide +kernel
theorem d_Pv_handOnMay_27 : decode b_Pv_handOnMay 27 = .ok (.ifCond .eq 19, 3) := by decide +kernel
theorem d_Pv_handOnMay_30 : decode b_Pv_handOnMay 30 = .ok (.aload_n 0, 1) := by decide +kernel
theorem d_Pv_handOnMay_31 : decode b_Pv_handOnMay 31 = .ok (.iload_n 3, 1) := by decide +kernel
theorem d_Pv_handOnMay_32 : decode b_Pv_handOnMay 32 = .ok (.iload 6, 2) := by decide +kernel
theorem d_Pv_handOnMay_34 : decode b_Pv_handOnMay 34 = .ok (.iload 5, 2) := by decide +kernel
theorem d_Pv_handOnMay_36 : decode b_Pv_handOnMay 36 = .ok (.invokestatic 38, 3) := by decide +kernel
theorem d_Pv_handOnMay_39 : decode b_Pv_handOnMay 39 = .ok (.iload_n 1, 1) := by decide +kernel
theorem d_Pv_handOnMay_40 : decode b_Pv_handOnMay 40 = .ok (.iload_n 2, 1) := by decide +kernel
theorem d_Pv_handOnMay_41 : decode b_Pv_handOnMay 41 = .ok (.iload 7, 2) := by decide +kernel
theorem d_Pv_handOnMay_43 : decode b_Pv_handOnMay 43 = .ok (.invokevirtual 108, 3) := by decide +kernel
theorem d_Pv_handOnMay_46 : decode b_Pv_handOnMay 46 = .ok (.iinc 6 1, 3) := by decide +kernel
theorem d_Pv_handOnMay_49 : decode b_Pv_handOnMay 49 = .ok (.goto (-46), 3) := by decide +kernel
theorem d_Pv_handOnMay_52 : decode b_Pv_handOnMay 52 = .ok (.return_, 1) := by decide +kernel
theorem d_Pv_findTrustByTrust_0 : decode b_Pv_findTrustByTrust 0 = .ok (.iconst 0, 1) := by decide +kernel
theorem d_Pv_findTrustByTrust_1 : decode b_Pv_findTrustByTrust 1 = .ok (.istore_n 1, 1) := by decide +kernel
theorem d_Pv_findTrustByTrust_2 : decode b_Pv_findTrustByTrust 2 = .ok (.iload_n 1, 1) := by decide +kernel
theorem d_Pv_findTrustByTrust_3 : decode b_Pv_findTrustByTrust 3 = .ok (.bipush 6, 2) := by decide +kernel
theorem d_Pv_findTrustByTrust_5 : decode b_Pv_findTrustByTrust 5 = .ok (.if_icmp .ge 84, 3) := by decide +kernel
theorem d_Pv_findTrustByTrust_8 : decode b_Pv_findTrustByTrust 8 = .ok (.iconst 0, 1) := by decide +kernel
theorem d_Pv_findTrustByTrust_9 : decode b_Pv_findTrustByTrust 9 = .ok (.istore_n 2, 1) := by decide +kernel
theorem d_Pv_findTrustByTrust_10 : decode b_Pv_findTrustByTrust 10 = .ok (.iload_n 2, 1) := by decide +kernel
theorem d_Pv_findTrustByTrust_11 : decode b_Pv_findTrustByTrust 11 = .ok (.bipush 6, 2) := by decide +kernel
theorem d_Pv_findTrustByTrust_13 : decode b_Pv_findTrustByTrust 13 = .ok (.if_icmp .ge 70, 3) := by decide +kernel
theorem d_Pv_findTrustByTrust_16 : decode b_Pv_findTrustByTrust 16 = .ok (.iconst 0, 1) := by decide +kernel
theorem d_Pv_findTrustByTrust_17 : decode b_Pv_findTrustByTrust 17 = .ok (.istore_n 3, 1) := by decide +kernel
theorem d_Pv_findTrustByTrust_18 : decode b_Pv_findTrustByTrust 18 = .ok (.iload_n 3, 1) := by decide +kernel
theorem d_Pv_findTrustByTrust_19 : decode b_Pv_findTrustByTrust 19 = .ok (.iconst 4, 1) := by decide +kernel
theorem d_Pv_findTrustByTrust_20 : decode b_Pv_findTrustByTrust 20 = .ok (.if_icmp .ge 57, 3) := by decide +kernel
theorem d_Pv_findTrustByTrust_23 : decode b_Pv_findTrustByTrust 23 = .ok (.iconst 1, 1) := by decide +kernel
theorem d_Pv_findTrustByTrust_24 : decode b_Pv_findTrustByTrust 24 = .ok (.istore 4, 2) := by decide +kernel
theorem d_Pv_findTrustByTrust_26 : decode b_Pv_findTrustByTrust 26 = .ok (.iload 4, 2) := by decide +kernel
theorem d_Pv_findTrustByTrust_28 : decode b_Pv_findTrustByTrust 28 = .ok (.iconst 4, 1) := by decide +kernel
theorem d_Pv_findTrustByTrust_29 : decode b_Pv_findTrustByTrust 29 = .ok (.if_icmp .ge 42, 3) := by decide +kernel
theorem d_Pv_findTrustByTrust_32 : decode b_Pv_findTrustByTrust 32 = .ok (.iload_n 2, 1) := by decide +kernel
theorem d_Pv_findTrustByTrust_33 : decode b_Pv_findTrustByTrust 33 = .ok (.iload_n 1, 1) := by decide +kernel
theorem d_Pv_findTrustByTrust_34 : decode b_Pv_findTrustByTrust 34 = .ok (.iload_n 3, 1) := by decide +kernel
theorem d_Pv_findTrustByTrust_35 : decode b_Pv_findTrustByTrust 35 = .ok (.iload 4, 2) := by decide +kernel
theorem d_Pv_findTrustByTrust_37 : decode b_Pv_findTrustByTrust 37 = .ok (.invokestatic 127, 3) := by decide +kernel
theorem d_Pv_findTrustByTrust_40 : decode b_Pv_findTrustByTrust 40 = .ok (.istore 5, 2) := by decide +kernel
theorem d_Pv_findTrustByTrust_42 : decode b_Pv_findTrustByTrust 42 = .ok (.aload_n 0, 1) := by decide +kernel
theorem d_Pv_findTrustByTrust_43 : decode b_Pv_findTrustByTrust 43 = .ok (.iload 5, 2) := by decide +kernel
theorem d_Pv_findTrustByTrust_45 : decode b_Pv_findTrustByTrust 45 = .ok (.invokevirtual 131, 3) := by decide +kernel
theorem d_Pv_findTrustByTrust_48 : decode b_Pv_findTrustByTrust 48 = .ok (.ifCond .eq 17, 3) := by decide +kernel
theorem d_Pv_findTrustByTrust_51 : decode b_Pv_findTrustByTrust 51 = .ok (.aload_n 0, 1) := by decide +kernel
theorem d_Pv_findTrustByTrust_52 : decode b_Pv_findTrustByTrust 52 = .ok (.iconst 4, 1) := by decide +kernel
theorem d_Pv_findTrustByTrust_53 : decode b_Pv_findTrustByTrust 53 = .ok (.iload 5, 2) := by decide +kernel
theorem d_Pv_findTrustByTrust_55 : decode b_Pv_findTrustByTrust 55 = .ok (.iload_n 2, 1) := by decide +kernel
theorem d_Pv_findTrustByTrust_56 : decode b_Pv_findTrustByTrust 56 = .ok (.iload_n 1, 1) := by decide +kernel
theorem d_Pv_findTrustByTrust_57 : decode b_Pv_findTrustByTrust 57 = .ok (.iload_n 3, 1) := by decide +kernel
theorem d_Pv_findTrustByTrust_58 : decode b_Pv_findTrustByTrust 58 = .ok (.iload 4, 2) := by decide +kernel
theorem d_Pv_findTrustByTrust_60 : decode b_Pv_findTrustByTrust 60 = .ok (.iconst 1, 1) := by decide +kernel
theorem d_Pv_findTrustByTrust_61 : decode b_Pv_findTrustByTrust 61 = .ok (.isub, 1) := by decide +kernel
theorem d_Pv_findTrustByTrust_62 : decode b_Pv_findTrustByTrust 62 = .ok (.invokevirtual 139, 3) := by decide +kernel
theorem d_Pv_findTrustByTrust_65 : decode b_Pv_findTrustByTrust 65 = .ok (.iinc 4 1, 3) := by decide +kernel
theorem d_Pv_findTrustByTrust_68 : decode b_Pv_findTrustByTrust 68 = .ok (.goto (-42), 3) := by decide +kernel
theorem d_Pv_findTrustByTrust_71 : decode b_Pv_findTrustByTrust 71 = .ok (.iinc 3 1, 3) := by decide +kernel
theorem d_Pv_findTrustByTrust_74 : decode b_Pv_findTrustByTrust 74 = .ok (.goto (-56), 3) := by decide +kernel
theorem d_Pv_findTrustByTrust_77 : decode b_Pv_findTrustByTrust 77 = .ok (.iinc 2 1, 3) := by decide +kernel
theorem d_Pv_findTrustByTrust_80 : decode b_Pv_findTrustByTrust 80 = .ok (.goto (-70), 3) := by decide +kernel
theorem d_Pv_findTrustByTrust_83 : decode b_Pv_findTrustByTrust 83 = .ok (.iinc 1 1, 3) := by decide +kernel
theorem d_Pv_findTrustByTrust_86 : decode b_Pv_findTrustByTrust 86 = .ok (.goto (-84), 3) := by decide +kernel
theorem d_Pv_findTrustByTrust_89 : decode b_Pv_findTrustByTrust 89 = .ok (.return_, 1) := by decide +kernel
theorem d_Pv_findTrustByVoice_0 : decode b_Pv_findTrustByVoice 0 = .ok (.iconst 0, 1) := by decide +kernel
theorem d_Pv_findTrustByVoice_1 : decode b_Pv_findTrustByVoice 1 = .ok (.istore_n 1, 1) := by decide +kernel
theorem d_Pv_findTrustByVoice_2 : decode b_Pv_findTrustByVoice 2 = .ok (.iload_n 1, 1) := by decide +kernel
theorem d_Pv_findTrustByVoice_3 : decode b_Pv_findTrustByVoice 3 = .ok (.bipush 6, 2) := by decide +kernel
theorem d_Pv_findTrustByVoice_5 : decode b_Pv_findTrustByVoice 5 = .ok (.if_icmp .ge 63, 3) := by decide +kernel
theorem d_Pv_findTrustByVoice_8 : decode b_Pv_findTrustByVoice 8 = .ok (.iconst 0, 1) := by decide +kernel
theorem d_Pv_findTrustByVoice_9 : decode b_Pv_findTrustByVoice 9 = .ok (.istore_n 2, 1) := by decide +kernel
theorem d_Pv_findTrustByVoice_10 : decode b_Pv_findTrustByVoice 10 = .ok (.iload_n 2, 1) := by decide +kernel
theorem d_Pv_findTrustByVoice_11 : decode b_Pv_findTrustByVoice 11 = .ok (.bipush 6, 2) := by decide +kernel
theorem d_Pv_findTrustByVoice_13 : decode b_Pv_findTrustByVoice 13 = .ok (.if_icmp .ge 49, 3) := by decide +kernel
theorem d_Pv_findTrustByVoice_16 : decode b_Pv_findTrustByVoice 16 = .ok (.iload_n 1, 1) := by decide +kernel
theorem d_Pv_findTrustByVoice_17 : decode b_Pv_findTrustByVoice 17 = .ok (.iload_n 2, 1) := by decide +kernel
theorem d_Pv_findTrustByVoice_18 : decode b_Pv_findTrustByVoice 18 = .ok (.invokestatic 123, 3) := by decide +kernel
theorem d_Pv_findTrustByVoice_21 : decode b_Pv_findTrustByVoice 21 = .ok (.istore_n 3, 1) := by decide +kernel
theorem d_Pv_findTrustByVoice_22 : decode b_Pv_findTrustByVoice 22 = .ok (.aload_n 0, 1) := by decide +kernel
theorem d_Pv_findTrustByVoice_23 : decode b_Pv_findTrustByVoice 23 = .ok (.iload_n 3, 1) := by decide +kernel
theorem d_Pv_findTrustByVoice_24 : decode b_Pv_findTrustByVoice 24 = .ok (.invokevirtual 131, 3) := by decide +kernel
theorem d_Pv_findTrustByVoice_27 : decode b_Pv_findTrustByVoice 27 = .ok (.ifCond .eq 29, 3) := by decide +kernel
theorem d_Pv_findTrustByVoice_30 : decode b_Pv_findTrustByVoice 30 = .ok (.iconst 0, 1) := by decide +kernel
theorem d_Pv_findTrustByVoice_31 : decode b_Pv_findTrustByVoice 31 = .ok (.istore 4, 2) := by decide +kernel
theorem d_Pv_findTrustByVoice_33 : decode b_Pv_findTrustByVoice 33 = .ok (.iload 4, 2) := by decide +kernel
theorem d_Pv_findTrustByVoice_35 : decode b_Pv_findTrustByVoice 35 = .ok (.iconst 4, 1) := by decide +kernel
theorem d_Pv_findTrustByVoice_36 : decode b_Pv_findTrustByVoice 36 = .ok (.if_icmp .ge 20, 3) := by decide +kernel
theorem d_Pv_findTrustByVoice_39 : decode b_Pv_findTrustByVoice 39 = .ok (.aload_n 0, 1) := by decide +kernel
theorem d_Pv_findTrustByVoice_40 : decode b_Pv_findTrustByVoice 40 = .ok (.iconst 5, 1) := by decide +kernel
theorem d_Pv_findTrustByVoice_41 : decode b_Pv_findTrustByVoice 41 = .ok (.iload_n 3, 1) := by decide +kernel
theorem d_Pv_findTrustByVoice_42 : decode b_Pv_findTrustByVoice 42 = .ok (.iload_n 2, 1) := by decide +kernel
theorem d_Pv_findTrustByVoice_43 : decode b_Pv_findTrustByVoice 43 = .ok (.iload_n 1, 1) := by decide +kernel
theorem d_Pv_findTrustByVoice_44 : decode b_Pv_findTrustByVoice 44 = .ok (.iload 4, 2) := by decide +kernel
theorem d_Pv_findTrustByVoice_46 : decode b_Pv_findTrustByVoice 46 = .ok (.iconst 3, 1) := by decide +kernel
theorem d_Pv_findTrustByVoice_47 : decode b_Pv_findTrustByVoice 47 = .ok (.invokevirtual 139, 3) := by decide +kernel
theorem d_Pv_findTrustByVoice_50 : decode b_Pv_findTrustByVoice 50 = .ok (.iinc 4 1, 3) := by decide +kernel
theorem d_Pv_findTrustByVoice_53 : decode b_Pv_findTrustByVoice 53 = .ok (.goto (-20), 3) := by decide +kernel
theorem d_Pv_findTrustByVoice_56 : decode b_Pv_findTrustByVoice 56 = .ok (.iinc 2 1, 3) := by decide +kernel
theorem d_Pv_findTrustByVoice_59 : decode b_Pv_findTrustByVoice 59 = .ok (.goto (-49), 3) := by decide +kernel
theorem d_Pv_findTrustByVoice_62 : decode b_Pv_findTrustByVoice 62 = .ok (.iinc 1 1, 3) := by decide +kernel
theorem d_Pv_findTrustByVoice_65 : decode b_Pv_findTrustByVoice 65 = .ok (.goto (-63), 3) := by decide +kernel
theorem d_Pv_findTrustByVoice_68 : decode b_Pv_findTrustByVoice 68 = .ok (.return_, 1) := by decide +kernel
theorem d_Pv_handOnTrust_0 : decode b_Pv_handOnTrust 0 = .ok (.iconst 0, 1) := by decide +kernel
theorem d_Pv_handOnTrust_1 : decode b_Pv_handOnTrust 1 = .ok (.istore 7, 2) := by decide +kernel
theorem d_Pv_handOnTrust_3 : decode b_Pv_handOnTrust 3 = .ok (.iload 7, 2) := by decide +kernel
theorem d_Pv_handOnTrust_5 : decode b_Pv_handOnTrust 5 = .ok (.bipush 6, 2) := by decide +kernel
theorem d_Pv_handOnTrust_7 : decode b_Pv_handOnTrust 7 = .ok (.if_icmp .ge 69, 3) := by decide +kernel
theorem d_Pv_handOnTrust_10 : decode b_Pv_handOnTrust 10 = .ok (.iconst 0, 1) := by decide +kernel
theorem d_Pv_handOnTrust_11 : decode b_Pv_handOnTrust 11 = .ok (.istore 8, 2) := by decide +kernel
theorem d_Pv_handOnTrust_13 : decode b_Pv_handOnTrust 13 = .ok (.iload 8, 2) := by decide +kernel
theorem d_Pv_handOnTrust_15 : decode b_Pv_handOnTrust 15 = .ok (.iconst 4, 1) := by decide +kernel
theorem d_Pv_handOnTrust_16 : decode b_Pv_handOnTrust 16 = .ok (.if_icmp .ge 54, 3) := by decide +kernel
theorem d_Pv_handOnTrust_19 : decode b_Pv_handOnTrust 19 = .ok (.iload 4, 2) := by decide +kernel
theorem d_Pv_handOnTrust_21 : decode b_Pv_handOnTrust 21 = .ok (.iload 7, 2) := by decide +kernel
theorem d_Pv_handOnTrust_23 : decode b_Pv_handOnTrust 23 = .ok (.iload 5, 2) := by decide +kernel
theorem d_Pv_handOnTrust_25 : decode b_Pv_handOnTrust 25 = .ok (.iload 8, 2) := by decide +kernel
theorem d_Pv_handOnTrust_27 : decode b_Pv_handOnTrust 27 = .ok (.invokestatic 127, 3) := by decide +kernel
theorem d_Pv_handOnTrust_30 : decode b_Pv_handOnTrust 30 = .ok (.istore 9, 2) := by decide +kernel
theorem d_Pv_handOnTrust_32 : decode b_Pv_handOnTrust 32 = .ok (.aload_n 0, 1) := by decide +kernel
theorem d_Pv_handOnTrust_33 : decode b_Pv_handOnTrust 33 = .ok (.iload 9, 2) := by decide +kernel
theorem d_Pv_handOnTrust_35 : decode b_Pv_handOnTrust 35 = .ok (.invokevirtual 131, 3) := by decide +kernel
theorem d_Pv_handOnTrust_38 : decode b_Pv_handOnTrust 38 = .ok (.ifCond .eq 26, 3) := by decide +kernel
theorem d_Pv_handOnTrust_41 : decode b_Pv_handOnTrust 41 = .ok (.aload_n 0, 1) := by decide +kernel
theorem d_Pv_handOnTrust_42 : decode b_Pv_handOnTrust 42 = .ok (.iload_n 3, 1) := by decide +kernel
theorem d_Pv_handOnTrust_43 : decode b_Pv_handOnTrust 43 = .ok (.iload 7, 2) := by decide +kernel
theorem d_Pv_handOnTrust_45 : decode b_Pv_handOnTrust 45 = .ok (.iload 5, 2) := by decide +kernel
theorem d_Pv_handOnTrust_47 : decode b_Pv_handOnTrust 47 = .ok (.iload 6, 2) := by decide +kernel
theorem d_Pv_handOnTrust_49 : decode b_Pv_handOnTrust 49 = .ok (.iload 8, 2) := by decide +kernel
theorem d_Pv_handOnTrust_51 : decode b_Pv_handOnTrust 51 = .ok (.invokestatic 143, 3) := by decide +kernel
theorem d_Pv_handOnTrust_54 : decode b_Pv_handOnTrust 54 = .ok (.invokestatic 127, 3) := by decide +kernel
theorem d_Pv_handOnTrust_57 : decode b_Pv_handOnTrust 57 = .ok (.iload_n 1, 1) := by decide +kernel
theorem d_Pv_handOnTrust_58 : decode b_Pv_handOnTrust 58 = .ok (.iload_n 2, 1) := by decide +kernel
theorem d_Pv_handOnTrust_59 : decode b_Pv_handOnTrust 59 = .ok (.iload 9, 2) := by decide +kernel
theorem d_Pv_handOnTrust_61 : decode b_Pv_handOnTrust 61 = .ok (.invokevirtual 108, 3) := by decide +kernel
theorem d_Pv_handOnTrust_64 : decode b_Pv_handOnTrust 64 = .ok (.iinc 8 1, 3) := by decide +kernel
theorem d_Pv_handOnTrust_67 : decode b_Pv_handOnTrust 67 = .ok (.goto (-54), 3) := by decide +kernel
theorem d_Pv_handOnTrust_70 : decode b_Pv_handOnTrust 70 = .ok (.iinc 7 1, 3) := by decide +kernel
theorem d_Pv_handOnTrust_73 : decode b_Pv_handOnTrust 73 = .ok (.goto (-70), 3) := by decide +kernel
theorem d_Pv_handOnTrust_76 : decode b_Pv_handOnTrust 76 = .ok (.return_, 1) := by decide +kernel
theorem d_Pv_findVoiceByVoice_0 : decode b_Pv_findVoiceByVoice 0 = .ok (.iconst 0, 1) := by decide +kernel
theorem d_Pv_findVoiceByVoice_1 : decode b_Pv_findVoiceByVoice 1 = .ok (.istore_n 1, 1) := by decide +kernel
theorem d_Pv_findVoiceByVoice_2 : decode b_Pv_findVoiceByVoice 2 = .ok (.iload_n 1, 1) := by decide +kernel
theorem d_Pv_findVoiceByVoice_3 : decode b_Pv_findVoiceByVoice 3 = .ok (.bipush 6, 2) := by decide +kernel
theorem d_Pv_findVoiceByVoice_5 : decode b_Pv_findVoiceByVoice 5 = .ok (.if_icmp .ge 41, 3) := by decide +kernel
theorem d_Pv_findVoiceByVoice_8 : decode b_Pv_findVoiceByVoice 8 = .ok (.iconst 0, 1) := by decide +kernel
theorem d_Pv_findVoiceByVoice_9 : decode b_Pv_findVoiceByVoice 9 = .ok (.istore_n 2, 1) := by decide +kernel
theorem d_Pv_findVoiceByVoice_10 : decode b_Pv_findVoiceByVoice 10 = .ok (.iload_n 2, 1) := by decide +kernel
theorem d_Pv_findVoiceByVoice_11 : decode b_Pv_findVoiceByVoice 11 = .ok (.bipush 6, 2) := by decide +kernel
theorem d_Pv_findVoiceByVoice_13 : decode b_Pv_findVoiceByVoice 13 = .ok (.if_icmp .ge 27, 3) := by decide +kernel
theorem d_Pv_findVoiceByVoice_16 : decode b_Pv_findVoiceByVoice 16 = .ok (.aload_n 0, 1) := by decide +kernel
theorem d_Pv_findVoiceByVoice_17 : decode b_Pv_findVoiceByVoice 17 = .ok (.iload_n 2, 1) := by decide +kernel
theorem d_Pv_findVoiceByVoice_18 : decode b_Pv_findVoiceByVoice 18 = .ok (.iload_n 1, 1) := by decide +kernel
theorem d_Pv_findVoiceByVoice_19 : decode b_Pv_findVoiceByVoice 19 = .ok (.invokestatic 123, 3) := by decide +kernel
theorem d_Pv_findVoiceByVoice_22 : decode b_Pv_findVoiceByVoice 22 = .ok (.invokevirtual 131, 3) := by decide +kernel
theorem d_Pv_findVoiceByVoice_25 : decode b_Pv_findVoiceByVoice 25 = .ok (.ifCond .eq 9, 3) := by decide +kernel
theorem d_Pv_findVoiceByVoice_28 : decode b_Pv_findVoiceByVoice 28 = .ok (.aload_n 0, 1) := by decide +kernel
theorem d_Pv_findVoiceByVoice_29 : decode b_Pv_findVoiceByVoice 29 = .ok (.iload_n 2, 1) := by decide +kernel
theorem d_Pv_findVoiceByVoice_30 : decode b_Pv_findVoiceByVoice 30 = .ok (.iload_n 1, 1) := by decide +kernel
theorem d_Pv_findVoiceByVoice_31 : decode b_Pv_findVoiceByVoice 31 = .ok (.invokevirtual 148, 3) := by decide +kernel
theorem d_Pv_findVoiceByVoice_34 : decode b_Pv_findVoiceByVoice 34 = .ok (.iinc 2 1, 3) := by decide +kernel
theorem d_Pv_findVoiceByVoice_37 : decode b_Pv_findVoiceByVoice 37 = .ok (.goto (-27), 3) := by decide +kernel
theorem d_Pv_findVoiceByVoice_40 : decode b_Pv_findVoiceByVoice 40 = .ok (.iinc 1 1, 3) := by decide +kernel
theorem d_Pv_findVoiceByVoice_43 : decode b_Pv_findVoiceByVoice 43 = .ok (.goto (-41), 3) := by decide +kernel
theorem d_Pv_findVoiceByVoice_46 : decode b_Pv_findVoiceByVoice 46 = .ok (.return_, 1) := by decide +kernel
theorem d_Pv_handOnVoice_0 : decode b_Pv_handOnVoice 0 = .ok (.iconst 0, 1) := by decide +kernel
theorem d_Pv_handOnVoice_1 : decode b_Pv_handOnVoice 1 = .ok (.istore_n 3, 1) := by decide +kernel
theorem d_Pv_handOnVoice_2 : decode b_Pv_handOnVoice 2 = .ok (.iload_n 3, 1) := by decide +kernel
theorem d_Pv_handOnVoice_3 : decode b_Pv_handOnVoice 3 = .ok (.bipush 6, 2) := by decide +kernel
theorem d_Pv_handOnVoice_5 : decode b_Pv_handOnVoice 5 = .ok (.if_icmp .ge 43, 3) := by decide +kernel
theorem d_Pv_handOnVoice_8 : decode b_Pv_handOnVoice 8 = .ok (.iload_n 2, 1) := by decide +kernel
theorem d_Pv_handOnVoice_9 : decode b_Pv_handOnVoice 9 = .ok (.iload_n 3, 1) := by decide +kernel
theorem d_Pv_handOnVoice_10 : decode b_Pv_handOnVoice 10 = .ok (.invokestatic 123, 3) := by decide +kernel
theorem d_Pv_handOnVoice_13 : decode b_Pv_handOnVoice 13 = .ok (.istore 4, 2) := by decide +kernel
theorem d_Pv_handOnVoice_15 : decode b_Pv_handOnVoice 15 = .ok (.aload_n 0, 1) := by decide +kernel
theorem d_Pv_handOnVoice_16 : decode b_Pv_handOnVoice 16 = .ok (.iload 4, 2) := by decide +kernel
theorem d_Pv_handOnVoice_18 : decode b_Pv_handOnVoice 18 = .ok (.invokevirtual 131, 3) := by decide +kernel
theorem d_Pv_handOnVoice_21 : decode b_Pv_handOnVoice 21 = .ok (.ifCond .eq 21, 3) := by decide +kernel
theorem d_Pv_handOnVoice_24 : decode b_Pv_handOnVoice 24 = .ok (.aload_n 0, 1) := by decide +kernel
theorem d_Pv_handOnVoice_25 : decode b_Pv_handOnVoice 25 = .ok (.iload_n 1, 1) := by decide +kernel
theorem d_Pv_handOnVoice_26 : decode b_Pv_handOnVoice 26 = .ok (.iload_n 3, 1) := by decide +kernel
theorem d_Pv_handOnVoice_27 : decode b_Pv_handOnVoice 27 = .ok (.invokestatic 123, 3) := by decide +kernel
theorem d_Pv_handOnVoice_30 : decode b_Pv_handOnVoice 30 = .ok (.bipush 6, 2) := by decide +kernel
theorem d_Pv_handOnVoice_32 : decode b_Pv_handOnVoice 32 = .ok (.iload_n 1, 1) := by decide +kernel
theorem d_Pv_handOnVoice_33 : decode b_Pv_handOnVoice 33 = .ok (.iload_n 2, 1) := by decide +kernel
theorem d_Pv_handOnVoice_34 : decode b_Pv_handOnVoice 34 = .ok (.invokestatic 123, 3) := by decide +kernel
theorem d_Pv_handOnVoice_37 : decode b_Pv_handOnVoice 37 = .ok (.iload 4, 2) := by decide +kernel
theorem d_Pv_handOnVoice_39 : decode b_Pv_handOnVoice 39 = .ok (.invokevirtual 108, 3) := by decide +kernel
theorem d_Pv_handOnVoice_42 : decode b_Pv_handOnVoice 42 = .ok (.iinc 3 1, 3) := by decide +kernel
theorem d_Pv_handOnVoice_45 : decode b_Pv_handOnVoice 45 = .ok (.goto (-43), 3) := by decide +kernel
theorem d_Pv_handOnVoice_48 : decode b_Pv_handOnVoice 48 = .ok (.return_, 1) := by decide +kernel
theorem d_Pv_findImplied_0 : decode b_Pv_findImplied 0 = .ok (.iconst 1, 1) := by decide +kernel
theorem d_Pv_findImplied_1 : decode b_Pv_findImplied 1 = .ok (.istore_n 1, 1) := by decide +kernel
theorem d_Pv_findImplied_2 : decode b_Pv_findImplied 2 = .ok (.iload_n 1, 1) := by decide +kernel
theorem d_Pv_findImplied_3 : decode b_Pv_findImplied 3 = .ok (.aload_n 0, 1) := by decide +kernel
theorem d_Pv_findImplied_4 : decode b_Pv_findImplied 4 = .ok (.getfield 34, 3) := by decide +kernel
theorem d_Pv_findImplied_7 : decode b_Pv_findImplied 7 = .ok (.invokevirtual 95, 3) := by decide +kernel
theorem d_Pv_findImplied_10 : decode b_Pv_findImplied 10 = .ok (.if_icmp .gt 51, 3) := by decide +kernel
theorem d_Pv_findImplied_13 : decode b_Pv_findImplied 13 = .ok (.aload_n 0, 1) := by decide +kernel
theorem d_Pv_findImplied_14 : decode b_Pv_findImplied 14 = .ok (.getfield 34, 3) := by decide +kernel
theorem d_Pv_findImplied_17 : decode b_Pv_findImplied 17 = .ok (.iload_n 1, 1) := by decide +kernel
theorem d_Pv_findImplied_18 : decode b_Pv_findImplied 18 = .ok (.invokevirtual 100, 3) := by decide +kernel
theorem d_Pv_findImplied_21 : decode b_Pv_findImplied 21 = .ok (.astore_n 2, 1) := by decide +kernel
theorem d_Pv_findImplied_22 : decode b_Pv_findImplied 22 = .ok (.aload_n 2, 1) := by decide +kernel
theorem d_Pv_findImplied_23 : decode b_Pv_findImplied 23 = .ok (.ifnull 32, 3) := by decide +kernel
theorem d_Pv_findImplied_26 : decode b_Pv_findImplied 26 = .ok (.aload_n 2, 1) := by decide +kernel
theorem d_Pv_findImplied_27 : decode b_Pv_findImplied 27 = .ok (.getfield 117, 3) := by decide +kernel
theorem d_Pv_findImplied_30 : decode b_Pv_findImplied 30 = .ok (.iconst 3, 1) := by decide +kernel
theorem d_Pv_findImplied_31 : decode b_Pv_findImplied 31 = .ok (.if_icmp .ne 24, 3) := by decide +kernel
theorem d_Pv_findImplied_34 : decode b_Pv_findImplied 34 = .ok (.aload_n 0, 1) := by decide +kernel
theorem d_Pv_findImplied_35 : decode b_Pv_findImplied 35 = .ok (.iload_n 1, 1) := by decide +kernel
theorem d_Pv_findImplied_36 : decode b_Pv_findImplied 36 = .ok (.aload_n 2, 1) := by decide +kernel
theorem d_Pv_findImplied_37 : decode b_Pv_findImplied 37 = .ok (.getfield 120, 3) := by decide +kernel
theorem d_Pv_findImplied_40 : decode b_Pv_findImplied 40 = .ok (.aload_n 2, 1) := by decide +kernel
theorem d_Pv_findImplied_41 : decode b_Pv_findImplied 41 = .ok (.getfield 112, 3) := by decide +kernel
theorem d_Pv_findImplied_44 : decode b_Pv_findImplied 44 = .ok (.iconst 0, 1) := by decide +kernel
theorem d_Pv_findImplied_45 : decode b_Pv_findImplied 45 = .ok (.iaload, 1) := by decide +kernel
theorem d_Pv_findImplied_46 : decode b_Pv_findImplied 46 = .ok (.aload_n 2, 1) := by decide +kernel
theorem d_Pv_findImplied_47 : decode b_Pv_findImplied 47 = .ok (.getfield 112, 3) := by decide +kernel
theorem d_Pv_findImplied_50 : decode b_Pv_findImplied 50 = .ok (.iconst 1, 1) := by decide +kernel
theorem d_Pv_findImplied_51 : decode b_Pv_findImplied 51 = .ok (.iaload, 1) := by decide +kernel
theorem d_Pv_findImplied_52 : decode b_Pv_findImplied 52 = .ok (.invokevirtual 152, 3) := by decide +kernel
theorem d_Pv_findImplied_55 : decode b_Pv_findImplied 55 = .ok (.iinc 1 1, 3) := by decide +kernel
theorem d_Pv_findImplied_58 : decode b_Pv_findImplied 58 = .ok (.goto (-56), 3) := by decide +kernel
theorem d_Pv_findImplied_61 : decode b_Pv_findImplied 61 = .ok (.return_, 1) := by decide +kernel
theorem d_Pv_applyImply_0 : decode b_Pv_applyImply 0 = .ok (.iconst 0, 1) := by decide +kernel
theorem d_Pv_applyImply_1 : decode b_Pv_applyImply 1 = .ok (.istore 5, 2) := by decide +kernel
theorem d_Pv_applyImply_3 : decode b_Pv_applyImply 3 = .ok (.iload 5, 2) := by decide +kernel
theorem d_Pv_applyImply_5 : decode b_Pv_applyImply 5 = .ok (.bipush 6, 2) := by decide +kernel
theorem d_Pv_applyImply_7 : decode b_Pv_applyImply 7 = .ok (.if_icmp .ge 44, 3) := by decide +kernel
theorem d_Pv_applyImply_10 : decode b_Pv_applyImply 10 = .ok (.iload_n 2, 1) := by decide +kernel
theorem d_Pv_applyImply_11 : decode b_Pv_applyImply 11 = .ok (.iload 5, 2) := by decide +kernel
theorem d_Pv_applyImply_13 : decode b_Pv_applyImply 13 = .ok (.iload_n 3, 1) := by decide +kernel
theorem d_Pv_applyImply_14 : decode b_Pv_applyImply 14 = .ok (.invokestatic 38, 3) := by decide +kernel
theorem d_Pv_applyImply_17 : decode b_Pv_applyImply 17 = .ok (.istore 6, 2) := by decide +kernel
theorem d_Pv_applyImply_19 : decode b_Pv_applyImply 19 = .ok (.aload_n 0, 1) := by decide +kernel
theorem d_Pv_applyImply_20 : decode b_Pv_applyImply 20 = .ok (.iload 6, 2) := by decide +kernel
theorem d_Pv_applyImply_22 : decode b_Pv_applyImply 22 = .ok (.invokevirtual 131, 3) := by decide +kernel
theorem d_Pv_applyImply_25 : decode b_Pv_applyImply 25 = .ok (.ifCond .eq 20, 3) := by decide +kernel
theorem d_Pv_applyImply_28 : decode b_Pv_applyImply 28 = .ok (.aload_n 0, 1) := by decide +kernel
theorem d_Pv_applyImply_29 : decode b_Pv_applyImply 29 = .ok (.iload_n 2, 1) := by decide +kernel
theorem d_Pv_applyImply_30 : decode b_Pv_applyImply 30 = .ok (.iload 5, 2) := by decide +kernel
theorem d_Pv_applyImply_32 : decode b_Pv_applyImply 32 = .ok (.iload 4, 2) := by decide +kernel
theorem d_Pv_applyImply_34 : decode b_Pv_applyImply 34 = .ok (.invokestatic 38, 3) := by decide +kernel
theorem d_Pv_applyImply_37 : decode b_Pv_applyImply 37 = .ok (.bipush 7, 2) := by decide +kernel
theorem d_Pv_applyImply_39 : decode b_Pv_applyImply 39 = .ok (.iload_n 1, 1) := by decide +kernel
theorem d_Pv_applyImply_40 : decode b_Pv_applyImply 40 = .ok (.iload 6, 2) := by decide +kernel
theorem d_Pv_applyImply_42 : decode b_Pv_applyImply 42 = .ok (.invokevirtual 108, 3) := by decide +kernel
theorem d_Pv_applyImply_45 : decode b_Pv_applyImply 45 = .ok (.iinc 5 1, 3) := by decide +kernel
theorem d_Pv_applyImply_48 : decode b_Pv_applyImply 48 = .ok (.goto (-45), 3) := by decide +kernel
theorem d_Pv_applyImply_51 : decode b_Pv_applyImply 51 = .ok (.return_, 1) := by decide +kernel
theorem d_Pv_reach_0 : decode b_Pv_reach 0 = .ok (.aload_n 0, 1) := by decide +kernel
theorem d_Pv_reach_1 : decode b_Pv_reach 1 = .ok (.getfield 18, 3) := by decide +kernel
theorem d_Pv_reach_4 : decode b_Pv_reach 4 = .ok (.iload_n 1, 1) := by decide +kernel
theorem d_Pv_reach_5 : decode b_Pv_reach 5 = .ok (.iaload, 1) := by decide +kernel
theorem d_Pv_reach_6 : decode b_Pv_reach 6 = .ok (.ifCond .ne 40, 3) := by decide +kernel
theorem d_Pv_reach_9 : decode b_Pv_reach 9 = .ok (.aload_n 0, 1) := by decide +kernel
theorem d_Pv_reach_10 : decode b_Pv_reach 10 = .ok (.getfield 18, 3) := by decide +kernel
theorem d_Pv_reach_13 : decode b_Pv_reach 13 = .ok (.iload_n 1, 1) := by decide +kernel
theorem d_Pv_reach_14 : decode b_Pv_reach 14 = .ok (.aload_n 0, 1) := by decide +kernel
theorem d_Pv_reach_15 : decode b_Pv_reach 15 = .ok (.getfield 62, 3) := by decide +kernel
theorem d_Pv_reach_18 : decode b_Pv_reach 18 = .ok (.iastore, 1) := by decide +kernel
theorem d_Pv_reach_19 : decode b_Pv_reach 19 = .ok (.aload_n 0, 1) := by decide +kernel
theorem d_Pv_reach_20 : decode b_Pv_reach 20 = .ok (.getfield 22, 3) := by decide +kernel
theorem d_Pv_reach_23 : decode b_Pv_reach 23 = .ok (.iload_n 1, 1) := by decide +kernel
theorem d_Pv_reach_24 : decode b_Pv_reach 24 = .ok (.iload_n 2, 1) := by decide +kernel
theorem d_Pv_reach_25 : decode b_Pv_reach 25 = .ok (.iastore, 1) := by decide +kernel
theorem d_Pv_reach_26 : decode b_Pv_reach 26 = .ok (.aload_n 0, 1) := by decide +kernel
theorem d_Pv_reach_27 : decode b_Pv_reach 27 = .ok (.getfield 25, 3) := by decide +kernel
theorem d_Pv_reach_30 : decode b_Pv_reach 30 = .ok (.iload_n 1, 1) := by decide +kernel
theorem d_Pv_reach_31 : decode b_Pv_reach 31 = .ok (.iload_n 3, 1) := by decide +kernel
theorem d_Pv_reach_32 : decode b_Pv_reach 32 = .ok (.iastore, 1) := by decide +kernel
theorem d_Pv_reach_33 : decode b_Pv_reach 33 = .ok (.aload_n 0, 1) := by decide +kernel
theorem d_Pv_reach_34 : decode b_Pv_reach 34 = .ok (.getfield 28, 3) := by decide +kernel
theorem d_Pv_reach_37 : decode b_Pv_reach 37 = .ok (.iload_n 1, 1) := by decide +kernel
theorem d_Pv_reach_38 : decode b_Pv_reach 38 = .ok (.iload 4, 2) := by decide +kernel
theorem d_Pv_reach_40 : decode b_Pv_reach 40 = .ok (.iastore, 1) := by decide +kernel
theorem d_Pv_reach_41 : decode b_Pv_reach 41 = .ok (.aload_n 0, 1) := by decide +kernel
theorem d_Pv_reach_42 : decode b_Pv_reach 42 = .ok (.iconst 1, 1) := by decide +kernel
theorem d_Pv_reach_43 : decode b_Pv_reach 43 = .ok (.putfield 66, 3) := by decide +kernel
theorem d_Pv_reach_46 : decode b_Pv_reach 46 = .ok (.return_, 1) := by decide +kernel
theorem d_Pv_isKnown_0 : decode b_Pv_isKnown 0 = .ok (.aload_n 0, 1) := by decide +kernel
theorem d_Pv_isKnown_1 : decode b_Pv_isKnown 1 = .ok (.getfield 18, 3) := by decide +kernel
theorem d_Pv_isKnown_4 : decode b_Pv_isKnown 4 = .ok (.iload_n 1, 1) := by decide +kernel
theorem d_Pv_isKnown_5 : decode b_Pv_isKnown 5 = .ok (.iaload, 1) := by decide +kernel
theorem d_Pv_isKnown_6 : decode b_Pv_isKnown 6 = .ok (.ifCond .eq 20, 3) := by decide +kernel
theorem d_Pv_isKnown_9 : decode b_Pv_isKnown 9 = .ok (.aload_n 0, 1) := by decide +kernel
theorem d_Pv_isKnown_10 : decode b_Pv_isKnown 10 = .ok (.getfield 18, 3) := by decide +kernel
theorem d_Pv_isKnown_13 : decode b_Pv_isKnown 13 = .ok (.iload_n 1, 1) := by decide +kernel
theorem d_Pv_isKnown_14 : decode b_Pv_isKnown 14 = .ok (.iaload, 1) := by decide +kernel
theorem d_Pv_isKnown_15 : decode b_Pv_isKnown 15 = .ok (.aload_n 0, 1) := by decide +kernel
theorem d_Pv_isKnown_16 : decode b_Pv_isKnown 16 = .ok (.getfield 62, 3) := by decide +kernel
theorem d_Pv_isKnown_19 : decode b_Pv_isKnown 19 = .ok (.if_icmp .ge 7, 3) := by decide +kernel
theorem d_Pv_isKnown_22 : decode b_Pv_isKnown 22 = .ok (.iconst 1, 1) := by decide +kernel
theorem d_Pv_isKnown_23 : decode b_Pv_isKnown 23 = .ok (.goto 4, 3) := by decide +kernel
theorem d_Pv_isKnown_26 : decode b_Pv_isKnown 26 = .ok (.iconst 0, 1) := by decide +kernel
theorem d_Pv_isKnown_27 : decode b_Pv_isKnown 27 = .ok (.ireturn, 1) := by decide +kernel
theorem d_Pv_writesStep_0 : decode b_Pv_writesStep 0 = .ok (.aload_n 0, 1) := by decide +kernel
theorem d_Pv_writesStep_1 : decode b_Pv_writesStep 1 = .ok (.getfield 31, 3) := by decide +kernel
theorem d_Pv_writesStep_4 : decode b_Pv_writesStep 4 = .ok (.iload_n 1, 1) := by decide +kernel
theorem d_Pv_writesStep_5 : decode b_Pv_writesStep 5 = .ok (.iaload, 1) := by decide +kernel
theorem d_Pv_writesStep_6 : decode b_Pv_writesStep 6 = .ok (.ifCond .lt 5, 3) := by decide +kernel
theorem d_Pv_writesStep_9 : decode b_Pv_writesStep 9 = .ok (.iconst 1, 1) := by decide +kernel
theorem d_Pv_writesStep_10 : decode b_Pv_writesStep 10 = .ok (.ireturn, 1) := by decide +kernel
theorem d_Pv_writesStep_11 : decode b_Pv_writesStep 11 = .ok (.iload_n 2, 1) := by decide +kernel
theorem d_Pv_writesStep_12 : decode b_Pv_writesStep 12 = .ok (.bipush 40, 2) := by decide +kernel
theorem d_Pv_writesStep_14 : decode b_Pv_writesStep 14 = .ok (.if_icmp .le 5, 3) := by decide +kernel
theorem d_Pv_writesStep_17 : decode b_Pv_writesStep 17 = .ok (.iconst 0, 1) := by decide +kernel
theorem d_Pv_writesStep_18 : decode b_Pv_writesStep 18 = .ok (.ireturn, 1) := by decide +kernel
theorem d_Pv_writesStep_19 : decode b_Pv_writesStep 19 = .ok (.aload_n 0, 1) := by decide +kernel
theorem d_Pv_writesStep_20 : decode b_Pv_writesStep 20 = .ok (.getfield 22, 3) := by decide +kernel
theorem d_Pv_writesStep_23 : decode b_Pv_writesStep 23 = .ok (.iload_n 1, 1) := by decide +kernel
theorem d_Pv_writesStep_24 : decode b_Pv_writesStep 24 = .ok (.iaload, 1) := by decide +kernel
theorem d_Pv_writesStep_25 : decode b_Pv_writesStep 25 = .ok (.istore_n 3, 1) := by decide +kernel
theorem d_Pv_writesStep_26 : decode b_Pv_writesStep 26 = .ok (.aload_n 0, 1) := by decide +kernel
theorem d_Pv_writesStep_27 : decode b_Pv_writesStep 27 = .ok (.getfield 25, 3) := by decide +kernel
theorem d_Pv_writesStep_30 : decode b_Pv_writesStep 30 = .ok (.iload_n 1, 1) := by decide +kernel
theorem d_Pv_writesStep_31 : decode b_Pv_writesStep 31 = .ok (.iaload, 1) := by decide +kernel
theorem d_Pv_writesStep_32 : decode b_Pv_writesStep 32 = .ok (.istore 4, 2) := by decide +kernel
theorem d_Pv_writesStep_34 : decode b_Pv_writesStep 34 = .ok (.aload_n 0, 1) := by decide +kernel
theorem d_Pv_writesStep_35 : decode b_Pv_writesStep 35 = .ok (.getfield 28, 3) := by decide +kernel
theorem d_Pv_writesStep_38 : decode b_Pv_writesStep 38 = .ok (.iload_n 1, 1) := by decide +kernel
theorem d_Pv_writesStep_39 : decode b_Pv_writesStep 39 = .ok (.iaload, 1) := by decide +kernel
theorem d_Pv_writesStep_40 : decode b_Pv_writesStep 40 = .ok (.istore 5, 2) := by decide +kernel
theorem d_Pv_writesStep_42 : decode b_Pv_writesStep 42 = .ok (.iload_n 3, 1) := by decide +kernel
theorem d_Pv_writesStep_43 : decode b_Pv_writesStep 43 = .ok (.iconst 1, 1) := by decide +kernel
theorem d_Pv_writesStep_44 : decode b_Pv_writesStep 44 = .ok (.if_icmp .eq 32, 3) := by decide +kernel
theorem d_Pv_writesStep_47 : decode b_Pv_writesStep 47 = .ok (.iload_n 3, 1) := by decide +kernel
theorem d_Pv_writesStep_48 : decode b_Pv_writesStep 48 = .ok (.bipush 7, 2) := by decide +kernel
theorem d_Pv_writesStep_50 : decode b_Pv_writesStep 50 = .ok (.if_icmp .eq 26, 3) := by decide +kernel
theorem d_Pv_writesStep_53 : decode b_Pv_writesStep 53 = .ok (.aload_n 0, 1) := by decide +kernel
theorem d_Pv_writesStep_54 : decode b_Pv_writesStep 54 = .ok (.iload 4, 2) := by decide +kernel
theorem d_Pv_writesStep_56 : decode b_Pv_writesStep 56 = .ok (.iload_n 2, 1) := by decide +kernel
theorem d_Pv_writesStep_57 : decode b_Pv_writesStep 57 = .ok (.iconst 1, 1) := by decide +kernel
theorem d_Pv_writesStep_58 : decode b_Pv_writesStep 58 = .ok (.iadd, 1) := by decide +kernel
theorem d_Pv_writesStep_59 : decode b_Pv_writesStep 59 = .ok (.invokevirtual 56, 3) := by decide +kernel
theorem d_Pv_writesStep_62 : decode b_Pv_writesStep 62 = .ok (.ifCond .ne 5, 3) := by decide +kernel
theorem d_Pv_writesStep_65 : decode b_Pv_writesStep 65 = .ok (.iconst 0, 1) := by decide +kernel
theorem d_Pv_writesStep_66 : decode b_Pv_writesStep 66 = .ok (.ireturn, 1) := by decide +kernel
theorem d_Pv_writesStep_67 : decode b_Pv_writesStep 67 = .ok (.aload_n 0, 1) := by decide +kernel
theorem d_Pv_writesStep_68 : decode b_Pv_writesStep 68 = .ok (.getfield 31, 3) := by decide +kernel
theorem d_Pv_writesStep_71 : decode b_Pv_writesStep 71 = .ok (.iload 4, 2) := by decide +kernel
theorem d_Pv_writesStep_73 : decode b_Pv_writesStep 73 = .ok (.iaload, 1) := by decide +kernel
theorem d_Pv_writesStep_74 : decode b_Pv_writesStep 74 = .ok (.istore 4, 2) := by decide +kernel
theorem d_Pv_writesStep_76 : decode b_Pv_writesStep 76 = .ok (.iload_n 3, 1) := by decide +kernel
theorem d_Pv_writesStep_77 : decode b_Pv_writesStep 77 = .ok (.iconst 1, 1) := by decide +kernel
theorem d_Pv_writesStep_78 : decode b_Pv_writesStep 78 = .ok (.if_icmp .eq 26, 3) := by decide +kernel
theorem d_Pv_writesStep_81 : decode b_Pv_writesStep 81 = .ok (.aload_n 0, 1) := by decide +kernel
theorem d_Pv_writesStep_82 : decode b_Pv_writesStep 82 = .ok (.iload 5, 2) := by decide +kernel
theorem d_Pv_writesStep_84 : decode b_Pv_writesStep 84 = .ok (.iload_n 2, 1) := by decide +kernel
theorem d_Pv_writesStep_85 : decode b_Pv_writesStep 85 = .ok (.iconst 1, 1) := by decide +kernel
theorem d_Pv_writesStep_86 : decode b_Pv_writesStep 86 = .ok (.iadd, 1) := by decide +kernel
theorem d_Pv_writesStep_87 : decode b_Pv_writesStep 87 = .ok (.invokevirtual 56, 3) := by decide +kernel
theorem d_Pv_writesStep_90 : decode b_Pv_writesStep 90 = .ok (.ifCond .ne 5, 3) := by decide +kernel
theorem d_Pv_writesStep_93 : decode b_Pv_writesStep 93 = .ok (.iconst 0, 1) := by decide +kernel
theorem d_Pv_writesStep_94 : decode b_Pv_writesStep 94 = .ok (.ireturn, 1) := by decide +kernel
theorem d_Pv_writesStep_95 : decode b_Pv_writesStep 95 = .ok (.aload_n 0, 1) := by decide +kernel
theorem d_Pv_writesStep_96 : decode b_Pv_writesStep 96 = .ok (.getfield 31, 3) := by decide +kernel
theorem d_Pv_writesStep_99 : decode b_Pv_writesStep 99 = .ok (.iload 5, 2) := by decide +kernel
theorem d_Pv_writesStep_101 : decode b_Pv_writesStep 101 = .ok (.iaload, 1) := by decide +kernel
theorem d_Pv_writesStep_102 : decode b_Pv_writesStep 102 = .ok (.istore 5, 2) := by decide +kernel
theorem d_Pv_writesStep_104 : decode b_Pv_writesStep 104 = .ok (.aload_n 0, 1) := by decide +kernel
theorem d_Pv_writesStep_105 : decode b_Pv_writesStep 105 = .ok (.getfield 31, 3) := by decide +kernel
theorem d_Pv_writesStep_108 : decode b_Pv_writesStep 108 = .ok (.iload_n 1, 1) := by decide +kernel
theorem d_Pv_writesStep_109 : decode b_Pv_writesStep 109 = .ok (.aload_n 0, 1) := by decide +kernel
theorem d_Pv_writesStep_110 : decode b_Pv_writesStep 110 = .ok (.getfield 14, 3) := by decide +kernel
theorem d_Pv_writesStep_113 : decode b_Pv_writesStep 113 = .ok (.iload_n 3, 1) := by decide +kernel
theorem d_Pv_writesStep_114 : decode b_Pv_writesStep 114 = .ok (.iload 4, 2) := by decide +kernel
theorem d_Pv_writesStep_116 : decode b_Pv_writesStep 116 = .ok (.iload 5, 2) := by decide +kernel
theorem d_Pv_writesStep_118 : decode b_Pv_writesStep 118 = .ok (.invokevirtual 155, 3) := by decide +kernel
theorem d_Pv_writesStep_121 : decode b_Pv_writesStep 121 = .ok (.iastore, 1) := by decide +kernel
theorem d_Pv_writesStep_122 : decode b_Pv_writesStep 122 = .ok (.aload_n 0, 1) := by decide +kernel
theorem d_Pv_writesStep_123 : decode b_Pv_writesStep 123 = .ok (.getfield 31, 3) := by decide +kernel
theorem d_Pv_writesStep_126 : decode b_Pv_writesStep 126 = .ok (.iload_n 1, 1) := by decide +kernel
theorem d_Pv_writesStep_127 : decode b_Pv_writesStep 127 = .ok (.iaload, 1) := by decide +kernel
theorem d_Pv_writesStep_128 : decode b_Pv_writesStep 128 = .ok (.ifCond .lt 7, 3) := by decide +kernel
theorem d_Pv_writesStep_131 : decode b_Pv_writesStep 131 = .ok (.iconst 1, 1) := by decide +kernel
theorem d_Pv_writesStep_132 : decode b_Pv_writesStep 132 = .ok (.goto 4, 3) := by decide +kernel
theorem d_Pv_writesStep_135 : decode b_Pv_writesStep 135 = .ok (.iconst 0, 1) := by decide +kernel
theorem d_Pv_writesStep_136 : decode b_Pv_writesStep 136 = .ok (.ireturn, 1) := by decide +kernel
theorem d_Pv_speaks_0 : decode b_Pv_speaks 0 = .ok (.bipush 6, 2) := by decide +kernel
theorem d_Pv_speaks_2 : decode b_Pv_speaks 2 = .ok (.iload_n 0, 1) := by decide +kernel
theorem d_Pv_speaks_3 : decode b_Pv_speaks 3 = .ok (.imul, 1) := by decide +kernel
theorem d_Pv_speaks_4 : decode b_Pv_speaks 4 = .ok (.iload_n 1, 1) := by decide +kernel
theorem d_Pv_speaks_5 : decode b_Pv_speaks 5 = .ok (.iadd, 1) := by decide +kernel
theorem d_Pv_speaks_6 : decode b_Pv_speaks 6 = .ok (.ireturn, 1) := by decide +kernel
theorem d_Pv_may_0 : decode b_Pv_may 0 = .ok (.bipush 36, 2) := by decide +kernel
theorem d_Pv_may_2 : decode b_Pv_may 2 = .ok (.bipush 6, 2) := by decide +kernel
theorem d_Pv_may_4 : decode b_Pv_may 4 = .ok (.iload_n 0, 1) := by decide +kernel
theorem d_Pv_may_5 : decode b_Pv_may 5 = .ok (.imul, 1) := by decide +kernel
theorem d_Pv_may_6 : decode b_Pv_may 6 = .ok (.iload_n 1, 1) := by decide +kernel
theorem d_Pv_may_7 : decode b_Pv_may 7 = .ok (.iadd, 1) := by decide +kernel
theorem d_Pv_may_8 : decode b_Pv_may 8 = .ok (.iconst 4, 1) := by decide +kernel
theorem d_Pv_may_9 : decode b_Pv_may 9 = .ok (.imul, 1) := by decide +kernel
theorem d_Pv_may_10 : decode b_Pv_may 10 = .ok (.iadd, 1) := by decide +kernel
theorem d_Pv_may_11 : decode b_Pv_may 11 = .ok (.iload_n 2, 1) := by decide +kernel
theorem d_Pv_may_12 : decode b_Pv_may 12 = .ok (.iadd, 1) := by decide +kernel
theorem d_Pv_may_13 : decode b_Pv_may 13 = .ok (.ireturn, 1) := by decide +kernel
theorem d_Pv_trusts_0 : decode b_Pv_trusts 0 = .ok (.sipush 180, 3) := by decide +kernel
theorem d_Pv_trusts_3 : decode b_Pv_trusts 3 = .ok (.bipush 6, 2) := by decide +kernel
theorem d_Pv_trusts_5 : decode b_Pv_trusts 5 = .ok (.iload_n 0, 1) := by decide +kernel
theorem d_Pv_trusts_6 : decode b_Pv_trusts 6 = .ok (.imul, 1) := by decide +kernel
theorem d_Pv_trusts_7 : decode b_Pv_trusts 7 = .ok (.iload_n 1, 1) := by decide +kernel
theorem d_Pv_trusts_8 : decode b_Pv_trusts 8 = .ok (.iadd, 1) := by decide +kernel
theorem d_Pv_trusts_9 : decode b_Pv_trusts 9 = .ok (.iconst 4, 1) := by decide +kernel
theorem d_Pv_trusts_10 : decode b_Pv_trusts 10 = .ok (.imul, 1) := by decide +kernel
theorem d_Pv_trusts_11 : decode b_Pv_trusts 11 = .ok (.iload_n 2, 1) := by decide +kernel
theorem d_Pv_trusts_12 : decode b_Pv_trusts 12 = .ok (.iadd, 1) := by decide +kernel
theorem d_Pv_trusts_13 : decode b_Pv_trusts 13 = .ok (.iconst 4, 1) := by decide +kernel
theorem d_Pv_trusts_14 : decode b_Pv_trusts 14 = .ok (.imul, 1) := by decide +kernel
theorem d_Pv_trusts_15 : decode b_Pv_trusts 15 = .ok (.iadd, 1) := by decide +kernel
theorem d_Pv_trusts_16 : decode b_Pv_trusts 16 = .ok (.iload_n 3, 1) := by decide +kernel
theorem d_Pv_trusts_17 : decode b_Pv_trusts 17 = .ok (.iadd, 1) := by decide +kernel
theorem d_Pv_trusts_18 : decode b_Pv_trusts 18 = .ok (.ireturn, 1) := by decide +kernel
end
section
theorem d_Ga_init_0 : decode b_Ga_init 0 = .ok (.aload_n 0, 1) := by decide +kernel
theorem d_Ga_init_1 : decode b_Ga_init 1 = .ok (.invokespecial 1, 3) := by decide +kernel
theorem d_Ga_init_4 : decode b_Ga_init 4 = .ok (.aload_n 0, 1) := by decide +kernel
theorem d_Ga_init_5 : decode b_Ga_init 5 = .ok (.iconst 4, 1) := by decide +kernel
theorem d_Ga_init_6 : decode b_Ga_init 6 = .ok (.newarray .int, 2) := by decide +kernel
theorem d_Ga_init_8 : decode b_Ga_init 8 = .ok (.putfield 9, 3) := by decide +kernel
theorem d_Ga_init_11 : decode b_Ga_init 11 = .ok (.aload_n 0, 1) := by decide +kernel
theorem d_Ga_init_12 : decode b_Ga_init 12 = .ok (.new 15, 3) := by decide +kernel
theorem d_Ga_init_15 : decode b_Ga_init 15 = .ok (.dup, 1) := by decide +kernel
theorem d_Ga_init_16 : decode b_Ga_init 16 = .ok (.invokespecial 17, 3) := by decide +kernel
theorem d_Ga_init_19 : decode b_Ga_init 19 = .ok (.putfield 18, 3) := by decide +kernel
theorem d_Ga_init_22 : decode b_Ga_init 22 = .ok (.aload_n 0, 1) := by decide +kernel
theorem d_Ga_init_23 : decode b_Ga_init 23 = .ok (.new 22, 3) := by decide +kernel
theorem d_Ga_init_26 : decode b_Ga_init 26 = .ok (.dup, 1) := by decide +kernel
theorem d_Ga_init_27 : decode b_Ga_init 27 = .ok (.invokespecial 24, 3) := by decide +kernel
theorem d_Ga_init_30 : decode b_Ga_init 30 = .ok (.putfield 25, 3) := by decide +kernel
theorem d_Ga_init_33 : decode b_Ga_init 33 = .ok (.aload_n 0, 1) := by decide +kernel
theorem d_Ga_init_34 : decode b_Ga_init 34 = .ok (.new 29, 3) := by decide +kernel
theorem d_Ga_init_37 : decode b_Ga_init 37 = .ok (.dup, 1) := by decide +kernel
theorem d_Ga_init_38 : decode b_Ga_init 38 = .ok (.aload_n 0, 1) := by decide +kernel
theorem d_Ga_init_39 : decode b_Ga_init 39 = .ok (.getfield 18, 3) := by decide +kernel
theorem d_Ga_init_42 : decode b_Ga_init 42 = .ok (.invokespecial 31, 3) := by decide +kernel
theorem d_Ga_init_45 : decode b_Ga_init 45 = .ok (.putfield 34, 3) := by decide +kernel
theorem d_Ga_init_48 : decode b_Ga_init 48 = .ok (.aload_n 0, 1) := by decide +kernel
theorem d_Ga_init_49 : decode b_Ga_init 49 = .ok (.new 38, 3) := by decide +kernel
theorem d_Ga_init_52 : decode b_Ga_init 52 = .ok (.dup, 1) := by decide +kernel
theorem d_Ga_init_53 : decode b_Ga_init 53 = .ok (.aload_n 0, 1) := by decide +kernel
theorem d_Ga_init_54 : decode b_Ga_init 54 = .ok (.getfield 18, 3) := by decide +kernel
theorem d_Ga_init_57 : decode b_Ga_init 57 = .ok (.invokespecial 40, 3) := by decide +kernel
theorem d_Ga_init_60 : decode b_Ga_init 60 = .ok (.putfield 41, 3) := by decide +kernel
theorem d_Ga_init_63 : decode b_Ga_init 63 = .ok (.aload_n 0, 1) := by decide +kernel
theorem d_Ga_init_64 : decode b_Ga_init 64 = .ok (.new 45, 3) := by decide +kernel
theorem d_Ga_init_67 : decode b_Ga_init 67 = .ok (.dup, 1) := by decide +kernel
theorem d_Ga_init_68 : decode b_Ga_init 68 = .ok (.invokespecial 47, 3) := by decide +kernel
theorem d_Ga_init_71 : decode b_Ga_init 71 = .ok (.putfield 48, 3) := by decide +kernel
theorem d_Ga_init_74 : decode b_Ga_init 74 = .ok (.aload_n 0, 1) := by decide +kernel
theorem d_Ga_init_75 : decode b_Ga_init 75 = .ok (.new 52, 3) := by decide +kernel
theorem d_Ga_init_78 : decode b_Ga_init 78 = .ok (.dup, 1) := by decide +kernel
theorem d_Ga_init_79 : decode b_Ga_init 79 = .ok (.invokespecial 54, 3) := by decide +kernel
theorem d_Ga_init_82 : decode b_Ga_init 82 = .ok (.putfield 55, 3) := by decide +kernel
theorem d_Ga_init_85 : decode b_Ga_init 85 = .ok (.aload_n 0, 1) := by decide +kernel
theorem d_Ga_init_86 : decode b_Ga_init 86 = .ok (.bipush 6, 2) := by decide +kernel
theorem d_Ga_init_88 : decode b_Ga_init 88 = .ok (.newarray .int, 2) := by decide +kernel
theorem d_Ga_init_90 : decode b_Ga_init 90 = .ok (.putfield 59, 3) := by decide +kernel
theorem d_Ga_init_93 : decode b_Ga_init 93 = .ok (.aload_n 0, 1) := by decide +kernel
theorem d_Ga_init_94 : decode b_Ga_init 94 = .ok (.bipush 6, 2) := by decide +kernel
theorem d_Ga_init_96 : decode b_Ga_init 96 = .ok (.newarray .int, 2) := by decide +kernel
theorem d_Ga_init_98 : decode b_Ga_init 98 = .ok (.putfield 62, 3) := by decide +kernel
theorem d_Ga_init_101 : decode b_Ga_init 101 = .ok (.aload_n 0, 1) := by decide +kernel
theorem d_Ga_init_102 : decode b_Ga_init 102 = .ok (.iload_n 1, 1) := by decide +kernel
theorem d_Ga_init_103 : decode b_Ga_init 103 = .ok (.putfield 65, 3) := by decide +kernel
theorem d_Ga_init_106 : decode b_Ga_init 106 = .ok (.aload_n 0, 1) := by decide +kernel
theorem d_Ga_init_107 : decode b_Ga_init 107 = .ok (.getfield 59, 3) := by decide +kernel
theorem d_Ga_init_110 : decode b_Ga_init 110 = .ok (.iconst (-1), 1) := by decide +kernel
theorem d_Ga_init_111 : decode b_Ga_init 111 = .ok (.invokestatic 69, 3) := by decide +kernel
theorem d_Ga_init_114 : decode b_Ga_init 114 = .ok (.return_, 1) := by decide +kernel
theorem d_Ga_seal_0 : decode b_Ga_seal 0 = .ok (.iconst 4, 1) := by decide +kernel
theorem d_Ga_seal_1 : decode b_Ga_seal 1 = .ok (.newarray .int, 2) := by decide +kernel
theorem d_Ga_seal_3 : decode b_Ga_seal 3 = .ok (.dup, 1) := by decide +kernel
theorem d_Ga_seal_4 : decode b_Ga_seal 4 = .ok (.iconst 0, 1) := by decide +kernel
theorem d_Ga_seal_5 : decode b_Ga_seal 5 = .ok (.iload_n 3, 1) := by decide +kernel
theorem d_Ga_seal_6 : decode b_Ga_seal 6 = .ok (.iastore, 1) := by decide +kernel
theorem d_Ga_seal_7 : decode b_Ga_seal 7 = .ok (.dup, 1) := by decide +kernel
theorem d_Ga_seal_8 : decode b_Ga_seal 8 = .ok (.iconst 1, 1) := by decide +kernel
theorem d_Ga_seal_9 : decode b_Ga_seal 9 = .ok (.iload 4, 2) := by decide +kernel
theorem d_Ga_seal_11 : decode b_Ga_seal 11 = .ok (.iastore, 1) := by decide +kernel
theorem d_Ga_seal_12 : decode b_Ga_seal 12 = .ok (.dup, 1) := by decide +kernel
theorem d_Ga_seal_13 : decode b_Ga_seal 13 = .ok (.iconst 2, 1) := by decide +kernel
theorem d_Ga_seal_14 : decode b_Ga_seal 14 = .ok (.iload 5, 2) := by decide +kernel
theorem d_Ga_seal_16 : decode b_Ga_seal 16 = .ok (.iastore, 1) := by decide +kernel
theorem d_Ga_seal_17 : decode b_Ga_seal 17 = .ok (.dup, 1) := by decide +kernel
theorem d_Ga_seal_18 : decode b_Ga_seal 18 = .ok (.iconst 3, 1) := by decide +kernel
theorem d_Ga_seal_19 : decode b_Ga_seal 19 = .ok (.iload 6, 2) := by decide +kernel
theorem d_Ga_seal_21 : decode b_Ga_seal 21 = .ok (.iastore, 1) := by decide +kernel
theorem d_Ga_seal_22 : decode b_Ga_seal 22 = .ok (.astore 9, 2) := by decide +kernel
theorem d_Ga_seal_24 : decode b_Ga_seal 24 = .ok (.aload_n 0, 1) := by decide +kernel
theorem d_Ga_seal_25 : decode b_Ga_seal 25 = .ok (.new 7, 3) := by decide +kernel
theorem d_Ga_seal_28 : decode b_Ga_seal 28 = .ok (.dup, 1) := by decide +kernel
theorem d_Ga_seal_29 : decode b_Ga_seal 29 = .ok (.iload_n 1, 1) := by decide +kernel
theorem d_Ga_seal_30 : decode b_Ga_seal 30 = .ok (.iload_n 2, 1) := by decide +kernel
theorem d_Ga_seal_31 : decode b_Ga_seal 31 = .ok (.aload 9, 2) := by decide +kernel
theorem d_Ga_seal_33 : decode b_Ga_seal 33 = .ok (.iload 7, 2) := by decide +kernel
theorem d_Ga_seal_35 : decode b_Ga_seal 35 = .ok (.iload 8, 2) := by decide +kernel
theorem d_Ga_seal_37 : decode b_Ga_seal 37 = .ok (.invokespecial 75, 3) := by decide +kernel
theorem d_Ga_seal_40 : decode b_Ga_seal 40 = .ok (.invokevirtual 78, 3) := by decide +kernel
theorem d_Ga_seal_43 : decode b_Ga_seal 43 = .ok (.ireturn, 1) := by decide +kernel
theorem d_Ga_submit_0 : decode b_Ga_submit 0 = .ok (.new 7, 3) := by decide +kernel
theorem d_Ga_submit_3 : decode b_Ga_submit 3 = .ok (.dup, 1) := by decide +kernel
theorem d_Ga_submit_4 : decode b_Ga_submit 4 = .ok (.iload_n 1, 1) := by decide +kernel
theorem d_Ga_submit_5 : decode b_Ga_submit 5 = .ok (.iload_n 2, 1) := by decide +kernel
theorem d_Ga_submit_6 : decode b_Ga_submit 6 = .ok (.aload_n 0, 1) := by decide +kernel
theorem d_Ga_submit_7 : decode b_Ga_submit 7 = .ok (.getfield 9, 3) := by decide +kernel
theorem d_Ga_submit_10 : decode b_Ga_submit 10 = .ok (.iload_n 3, 1) := by decide +kernel
theorem d_Ga_submit_11 : decode b_Ga_submit 11 = .ok (.iload 4, 2) := by decide +kernel
theorem d_Ga_submit_13 : decode b_Ga_submit 13 = .ok (.invokespecial 75, 3) := by decide +kernel
theorem d_Ga_submit_16 : decode b_Ga_submit 16 = .ok (.astore 6, 2) := by decide +kernel
theorem d_Ga_submit_18 : decode b_Ga_submit 18 = .ok (.aload 6, 2) := by decide +kernel
theorem d_Ga_submit_20 : decode b_Ga_submit 20 = .ok (.invokevirtual 82, 3) := by decide +kernel
theorem d_Ga_submit_23 : decode b_Ga_submit 23 = .ok (.ifCond .ne 13, 3) := by decide +kernel
theorem d_Ga_submit_26 : decode b_Ga_submit 26 = .ok (.new 86, 3) := by decide +kernel
theorem d_Ga_submit_29 : decode b_Ga_submit 29 = .ok (.dup, 1) := by decide +kernel
theorem d_Ga_submit_30 : decode b_Ga_submit 30 = .ok (.ldc 88, 2) := by decide +kernel
theorem d_Ga_submit_32 : decode b_Ga_submit 32 = .ok (.invokespecial 90, 3) := by decide +kernel
theorem d_Ga_submit_35 : decode b_Ga_submit 35 = .ok (.athrow, 1) := by decide +kernel
theorem d_Ga_submit_36 : decode b_Ga_submit 36 = .ok (.aload_n 0, 1) := by decide +kernel
theorem d_Ga_submit_37 : decode b_Ga_submit 37 = .ok (.aload 6, 2) := by decide +kernel
theorem d_Ga_submit_39 : decode b_Ga_submit 39 = .ok (.invokevirtual 78, 3) := by decide +kernel
theorem d_Ga_submit_42 : decode b_Ga_submit 42 = .ok (.iload 5, 2) := by decide +kernel
theorem d_Ga_submit_44 : decode b_Ga_submit 44 = .ok (.if_icmp .eq 13, 3) := by decide +kernel
theorem d_Ga_submit_47 : decode b_Ga_submit 47 = .ok (.new 93, 3) := by decide +kernel
theorem d_Ga_submit_50 : decode b_Ga_submit 50 = .ok (.dup, 1) := by decide +kernel
theorem d_Ga_submit_51 : decode b_Ga_submit 51 = .ok (.ldc 95, 2) := by decide +kernel
theorem d_Ga_submit_53 : decode b_Ga_submit 53 = .ok (.invokespecial 97, 3) := by decide +kernel
theorem d_Ga_submit_56 : decode b_Ga_submit 56 = .ok (.athrow, 1) := by decide +kernel
theorem d_Ga_submit_57 : decode b_Ga_submit 57 = .ok (.aload_n 0, 1) := by decide +kernel
theorem d_Ga_submit_58 : decode b_Ga_submit 58 = .ok (.getfield 18, 3) := by decide +kernel
theorem d_Ga_submit_61 : decode b_Ga_submit 61 = .ok (.invokevirtual 98, 3) := by decide +kernel
theorem d_Ga_submit_64 : decode b_Ga_submit 64 = .ok (.bipush 24, 2) := by decide +kernel
theorem d_Ga_submit_66 : decode b_Ga_submit 66 = .ok (.if_icmp .lt 13, 3) := by decide +kernel
theorem d_Ga_submit_69 : decode b_Ga_submit 69 = .ok (.new 102, 3) := by decide +kernel
theorem d_Ga_submit_72 : decode b_Ga_submit 72 = .ok (.dup, 1) := by decide +kernel
theorem d_Ga_submit_73 : decode b_Ga_submit 73 = .ok (.ldc 104, 2) := by decide +kernel
theorem d_Ga_submit_75 : decode b_Ga_submit 75 = .ok (.invokespecial 106, 3) := by decide +kernel
theorem d_Ga_submit_78 : decode b_Ga_submit 78 = .ok (.athrow, 1) := by decide +kernel
theorem d_Ga_submit_79 : decode b_Ga_submit 79 = .ok (.aload_n 0, 1) := by decide +kernel
theorem d_Ga_submit_80 : decode b_Ga_submit 80 = .ok (.invokevirtual 107, 3) := by decide +kernel
theorem d_Ga_submit_83 : decode b_Ga_submit 83 = .ok (.aload_n 0, 1) := by decide +kernel
theorem d_Ga_submit_84 : decode b_Ga_submit 84 = .ok (.getfield 18, 3) := by decide +kernel
theorem d_Ga_submit_87 : decode b_Ga_submit 87 = .ok (.aload 6, 2) := by decide +kernel
theorem d_Ga_submit_89 : decode b_Ga_submit 89 = .ok (.invokevirtual 110, 3) := by decide +kernel
theorem d_Ga_submit_92 : decode b_Ga_submit 92 = .ok (.ireturn, 1) := by decide +kernel
theorem d_Ga_set_0 : decode b_Ga_set 0 = .ok (.aload_n 0, 1) := by decide +kernel
theorem d_Ga_set_1 : decode b_Ga_set 1 = .ok (.getfield 9, 3) := by decide +kernel
theorem d_Ga_set_4 : decode b_Ga_set 4 = .ok (.iconst 0, 1) := by decide +kernel
theorem d_Ga_set_5 : decode b_Ga_set 5 = .ok (.iload_n 1, 1) := by decide +kernel
theorem d_Ga_set_6 : decode b_Ga_set 6 = .ok (.iastore, 1) := by decide +kernel
theorem d_Ga_set_7 : decode b_Ga_set 7 = .ok (.aload_n 0, 1) := by decide +kernel
theorem d_Ga_set_8 : decode b_Ga_set 8 = .ok (.getfield 9, 3) := by decide +kernel
theorem d_Ga_set_11 : decode b_Ga_set 11 = .ok (.iconst 1, 1) := by decide +kernel
theorem d_Ga_set_12 : decode b_Ga_set 12 = .ok (.iload_n 2, 1) := by decide +kernel
theorem d_Ga_set_13 : decode b_Ga_set 13 = .ok (.iastore, 1) := by decide +kernel
theorem d_Ga_set_14 : decode b_Ga_set 14 = .ok (.aload_n 0, 1) := by decide +kernel
theorem d_Ga_set_15 : decode b_Ga_set 15 = .ok (.getfield 9, 3) := by decide +kernel
theorem d_Ga_set_18 : decode b_Ga_set 18 = .ok (.iconst 2, 1) := by decide +kernel
theorem d_Ga_set_19 : decode b_Ga_set 19 = .ok (.iload_n 3, 1) := by decide +kernel
theorem d_Ga_set_20 : decode b_Ga_set 20 = .ok (.iastore, 1) := by decide +kernel
theorem d_Ga_set_21 : decode b_Ga_set 21 = .ok (.aload_n 0, 1) := by decide +kernel
theorem d_Ga_set_22 : decode b_Ga_set 22 = .ok (.getfield 9, 3) := by decide +kernel
theorem d_Ga_set_25 : decode b_Ga_set 25 = .ok (.iconst 3, 1) := by decide +kernel
theorem d_Ga_set_26 : decode b_Ga_set 26 = .ok (.iload 4, 2) := by decide +kernel
theorem d_Ga_set_28 : decode b_Ga_set 28 = .ok (.iastore, 1) := by decide +kernel
theorem d_Ga_set_29 : decode b_Ga_set 29 = .ok (.return_, 1) := by decide +kernel
theorem d_Ga_revoke_0 : decode b_Ga_revoke 0 = .ok (.aload_n 0, 1) := by decide +kernel
theorem d_Ga_revoke_1 : decode b_Ga_revoke 1 = .ok (.getfield 18, 3) := by decide +kernel
theorem d_Ga_revoke_4 : decode b_Ga_revoke 4 = .ok (.iload_n 2, 1) := by decide +kernel
theorem d_Ga_revoke_5 : decode b_Ga_revoke 5 = .ok (.invokevirtual 113, 3) := by decide +kernel
theorem d_Ga_revoke_8 : decode b_Ga_revoke 8 = .ok (.astore_n 3, 1) := by decide +kernel
theorem d_Ga_revoke_9 : decode b_Ga_revoke 9 = .ok (.aload_n 3, 1) := by decide +kernel
theorem d_Ga_revoke_10 : decode b_Ga_revoke 10 = .ok (.ifnonnull 13, 3) := by decide +kernel
theorem d_Ga_revoke_13 : decode b_Ga_revoke 13 = .ok (.new 117, 3) := by decide +kernel
theorem d_Ga_revoke_16 : decode b_Ga_revoke 16 = .ok (.dup, 1) := by decide +kernel
theorem d_Ga_revoke_17 : decode b_Ga_revoke 17 = .ok (.ldc 119, 2) := by decide +kernel
theorem d_Ga_revoke_19 : decode b_Ga_revoke 19 = .ok (.invokespecial 121, 3) := by decide +kernel
theorem d_Ga_revoke_22 : decode b_Ga_revoke 22 = .ok (.athrow, 1) := by decide +kernel
theorem d_Ga_revoke_23 : decode b_Ga_revoke 23 = .ok (.aload_n 3, 1) := by decide +kernel
theorem d_Ga_revoke_24 : decode b_Ga_revoke 24 = .ok (.getfield 122, 3) := by decide +kernel
theorem d_Ga_revoke_27 : decode b_Ga_revoke 27 = .ok (.iload_n 1, 1) := by decide +kernel
theorem d_Ga_revoke_28 : decode b_Ga_revoke 28 = .ok (.if_icmp .eq 13, 3) := by decide +kernel
theorem d_Ga_revoke_31 : decode b_Ga_revoke 31 = .ok (.new 93, 3) := by decide +kernel
theorem d_Ga_revoke_34 : decode b_Ga_revoke 34 = .ok (.dup, 1) := by decide +kernel
theorem d_Ga_revoke_35 : decode b_Ga_revoke 35 = .ok (.ldc 125, 2) := by decide +kernel
theorem d_Ga_revoke_37 : decode b_Ga_revoke 37 = .ok (.invokespecial 97, 3) := by decide +kernel
theorem d_Ga_revoke_40 : decode b_Ga_revoke 40 = .ok (.athrow, 1) := by decide +kernel
theorem d_Ga_revoke_41 : decode b_Ga_revoke 41 = .ok (.aload_n 3, 1) := by decide +kernel
theorem d_Ga_revoke_42 : decode b_Ga_revoke 42 = .ok (.getfield 127, 3) := by decide +kernel
theorem d_Ga_revoke_45 : decode b_Ga_revoke 45 = .ok (.ifCond .eq 5, 3) := by decide +kernel
theorem d_Ga_revoke_48 : decode b_Ga_revoke 48 = .ok (.iconst 0, 1) := by decide +kernel
theorem d_Ga_revoke_49 : decode b_Ga_revoke 49 = .ok (.ireturn, 1) := by decide +kernel
theorem d_Ga_revoke_50 : decode b_Ga_revoke 50 = .ok (.aload_n 0, 1) := by decide +kernel
theorem d_Ga_revoke_51 : decode b_Ga_revoke 51 = .ok (.invokevirtual 107, 3) := by decide +kernel
theorem d_Ga_revoke_54 : decode b_Ga_revoke 54 = .ok (.aload_n 3, 1) := by decide +kernel
theorem d_Ga_revoke_55 : decode b_Ga_revoke 55 = .ok (.iconst 1, 1) := by decide +kernel
theorem d_Ga_revoke_56 : decode b_Ga_revoke 56 = .ok (.putfield 127, 3) := by decide +kernel
theorem d_Ga_revoke_59 : decode b_Ga_revoke 59 = .ok (.iconst 1, 1) := by decide +kernel
theorem d_Ga_revoke_60 : decode b_Ga_revoke 60 = .ok (.ireturn, 1) := by decide +kernel
theorem d_Ga_pass_0 : decode b_Ga_pass 0 = .ok (.iload_n 1, 1) := by decide +kernel
theorem d_Ga_pass_1 : decode b_Ga_pass 1 = .ok (.iconst 1, 1) := by decide +kernel
theorem d_Ga_pass_2 : decode b_Ga_pass 2 = .ok (.if_icmp .lt 20, 3) := by decide +kernel
theorem d_Ga_pass_5 : decode b_Ga_pass 5 = .ok (.iload_n 1, 1) := by decide +kernel
theorem d_Ga_pass_6 : decode b_Ga_pass 6 = .ok (.bipush 100, 2) := by decide +kernel
theorem d_Ga_pass_8 : decode b_Ga_pass 8 = .ok (.if_icmp .gt 14, 3) := by decide +kernel
theorem d_Ga_pass_11 : decode b_Ga_pass 11 = .ok (.aload_n 0, 1) := by decide +kernel
theorem d_Ga_pass_12 : decode b_Ga_pass 12 = .ok (.getfield 18, 3) := by decide +kernel
theorem d_Ga_pass_15 : decode b_Ga_pass 15 = .ok (.iload_n 1, 1) := by decide +kernel
theorem d_Ga_pass_16 : decode b_Ga_pass 16 = .ok (.invokevirtual 131, 3) := by decide +kernel
theorem d_Ga_pass_19 : decode b_Ga_pass 19 = .ok (.goto 4, 3) := by decide +kernel
theorem d_Ga_pass_22 : decode b_Ga_pass 22 = .ok (.iconst (-1), 1) := by decide +kernel
theorem d_Ga_pass_23 : decode b_Ga_pass 23 = .ok (.ireturn, 1) := by decide +kernel
theorem d_Ga_step_0 : decode b_Ga_step 0 = .ok (.aload_n 0, 1) := by decide +kernel
theorem d_Ga_step_1 : decode b_Ga_step 1 = .ok (.getfield 25, 3) := by decide +kernel
theorem d_Ga_step_4 : decode b_Ga_step 4 = .ok (.iload_n 1, 1) := by decide +kernel
theorem d_Ga_step_5 : decode b_Ga_step 5 = .ok (.iload_n 2, 1) := by decide +kernel
theorem d_Ga_step_6 : decode b_Ga_step 6 = .ok (.iload_n 3, 1) := by decide +kernel
theorem d_Ga_step_7 : decode b_Ga_step 7 = .ok (.invokevirtual 135, 3) := by decide +kernel
theorem d_Ga_step_10 : decode b_Ga_step 10 = .ok (.ireturn, 1) := by decide +kernel
theorem d_Ga_clear_0 : decode b_Ga_clear 0 = .ok (.aload_n 0, 1) := by decide +kernel
theorem d_Ga_clear_1 : decode b_Ga_clear 1 = .ok (.getfield 25, 3) := by decide +kernel
theorem d_Ga_clear_4 : decode b_Ga_clear 4 = .ok (.invokevirtual 139, 3) := by decide +kernel
theorem d_Ga_clear_7 : decode b_Ga_clear 7 = .ok (.ireturn, 1) := by decide +kernel
theorem d_Ga_steps_0 : decode b_Ga_steps 0 = .ok (.aload_n 0, 1) := by decide +kernel
theorem d_Ga_steps_1 : decode b_Ga_steps 1 = .ok (.getfield 25, 3) := by decide +kernel
theorem d_Ga_steps_4 : decode b_Ga_steps 4 = .ok (.invokevirtual 142, 3) := by decide +kernel
theorem d_Ga_steps_7 : decode b_Ga_steps 7 = .ok (.ireturn, 1) := by decide +kernel
theorem d_Ga_stepAt_0 : decode b_Ga_stepAt 0 = .ok (.aload_n 0, 1) := by decide +kernel
theorem d_Ga_stepAt_1 : decode b_Ga_stepAt 1 = .ok (.getfield 25, 3) := by decide +kernel
theorem d_Ga_stepAt_4 : decode b_Ga_stepAt 4 = .ok (.iload_n 1, 1) := by decide +kernel
theorem d_Ga_stepAt_5 : decode b_Ga_stepAt 5 = .ok (.invokevirtual 145, 3) := by decide +kernel
theorem d_Ga_stepAt_8 : decode b_Ga_stepAt 8 = .ok (.ifCond .ne 5, 3) := by decide +kernel
theorem d_Ga_stepAt_11 : decode b_Ga_stepAt 11 = .ok (.iconst (-1), 1) := by decide +kernel
theorem d_Ga_stepAt_12 : decode b_Ga_stepAt 12 = .ok (.ireturn, 1) := by decide +kernel
theorem d_Ga_stepAt_13 : decode b_Ga_stepAt 13 = .ok (.iload_n 2, 1) := by decide +kernel
theorem d_Ga_stepAt_14 : decode b_Ga_stepAt 14 = .ok (.tableswitch 53 0 2 #[26, 35, 44], 26) := by decide +kernel
theorem d_Ga_stepAt_40 : decode b_Ga_stepAt 40 = .ok (.aload_n 0, 1) := by decide +kernel
theorem d_Ga_stepAt_41 : decode b_Ga_stepAt 41 = .ok (.getfield 25, 3) := by decide +kernel
theorem d_Ga_stepAt_44 : decode b_Ga_stepAt 44 = .ok (.iload_n 1, 1) := by decide +kernel
theorem d_Ga_stepAt_45 : decode b_Ga_stepAt 45 = .ok (.invokevirtual 149, 3) := by decide +kernel
theorem d_Ga_stepAt_48 : decode b_Ga_stepAt 48 = .ok (.ireturn, 1) := by decide +kernel
theorem d_Ga_stepAt_49 : decode b_Ga_stepAt 49 = .ok (.aload_n 0, 1) := by decide +kernel
theorem d_Ga_stepAt_50 : decode b_Ga_stepAt 50 = .ok (.getfield 25, 3) := by decide +kernel
theorem d_Ga_stepAt_53 : decode b_Ga_stepAt 53 = .ok (.iload_n 1, 1) := by decide +kernel
theorem d_Ga_stepAt_54 : decode b_Ga_stepAt 54 = .ok (.invokevirtual 152, 3) := by decide +kernel
theorem d_Ga_stepAt_57 : decode b_Ga_stepAt 57 = .ok (.ireturn, 1) := by decide +kernel
theorem d_Ga_stepAt_58 : decode b_Ga_stepAt 58 = .ok (.aload_n 0, 1) := by decide +kernel
theorem d_Ga_stepAt_59 : decode b_Ga_stepAt 59 = .ok (.getfield 25, 3) := by decide +kernel
theorem d_Ga_stepAt_62 : decode b_Ga_stepAt 62 = .ok (.iload_n 1, 1) := by decide +kernel
theorem d_Ga_stepAt_63 : decode b_Ga_stepAt 63 = .ok (.invokevirtual 155, 3) := by decide +kernel
theorem d_Ga_stepAt_66 : decode b_Ga_stepAt 66 = .ok (.ireturn, 1) := by decide +kernel
theorem d_Ga_stepAt_67 : decode b_Ga_stepAt 67 = .ok (.iconst (-1), 1) := by decide +kernel
theorem d_Ga_stepAt_68 : decode b_Ga_stepAt 68 = .ok (.ireturn, 1) := by decide +kernel
theorem d_Ga_prove_0 : decode b_Ga_prove 0 = .ok (.iload_n 1, 1) := by decide +kernel
theorem d_Ga_prove_1 : decode b_Ga_prove 1 = .ok (.iload_n 2, 1) := by decide +kernel
theorem d_Ga_prove_2 : decode b_Ga_prove 2 = .ok (.iload_n 3, 1) := by decide +kernel
theorem d_Ga_prove_3 : decode b_Ga_prove 3 = .ok (.invokestatic 158, 3) := by decide +kernel
theorem d_Ga_prove_6 : decode b_Ga_prove 6 = .ok (.ifCond .eq 12, 3) := by decide +kernel
theorem d_Ga_prove_9 : decode b_Ga_prove 9 = .ok (.aload_n 0, 1) := by decide +kernel
theorem d_Ga_prove_10 : decode b_Ga_prove 10 = .ok (.iload_n 2, 1) := by decide +kernel
theorem d_Ga_prove_11 : decode b_Ga_prove 11 = .ok (.iload_n 3, 1) := by decide +kernel
theorem d_Ga_prove_12 : decode b_Ga_prove 12 = .ok (.invokevirtual 162, 3) := by decide +kernel
theorem d_Ga_prove_15 : decode b_Ga_prove 15 = .ok (.ifCond .ne 5, 3) := by decide +kernel
theorem d_Ga_prove_18 : decode b_Ga_prove 18 = .ok (.iconst (-1), 1) := by decide +kernel
theorem d_Ga_prove_19 : decode b_Ga_prove 19 = .ok (.ireturn, 1) := by decide +kernel
theorem d_Ga_prove_20 : decode b_Ga_prove 20 = .ok (.aload_n 0, 1) := by decide +kernel
theorem d_Ga_prove_21 : decode b_Ga_prove 21 = .ok (.getfield 34, 3) := by decide +kernel
theorem d_Ga_prove_24 : decode b_Ga_prove 24 = .ok (.aload_n 0, 1) := by decide +kernel
theorem d_Ga_prove_25 : decode b_Ga_prove 25 = .ok (.iload_n 2, 1) := by decide +kernel
theorem d_Ga_prove_26 : decode b_Ga_prove 26 = .ok (.iload_n 3, 1) := by decide +kernel
theorem d_Ga_prove_27 : decode b_Ga_prove 27 = .ok (.invokevirtual 166, 3) := by decide +kernel
theorem d_Ga_prove_30 : decode b_Ga_prove 30 = .ok (.iload_n 1, 1) := by decide +kernel
theorem d_Ga_prove_31 : decode b_Ga_prove 31 = .ok (.iload_n 2, 1) := by decide +kernel
theorem d_Ga_prove_32 : decode b_Ga_prove 32 = .ok (.iload_n 3, 1) := by decide +kernel
theorem d_Ga_prove_33 : decode b_Ga_prove 33 = .ok (.invokevirtual 170, 3) := by decide +kernel
theorem d_Ga_prove_36 : decode b_Ga_prove 36 = .ok (.istore 4, 2) := by decide +kernel
theorem d_Ga_prove_38 : decode b_Ga_prove 38 = .ok (.iload 4, 2) := by decide +kernel
theorem d_Ga_prove_40 : decode b_Ga_prove 40 = .ok (.ifCond .le 17, 3) := by decide +kernel
theorem d_Ga_prove_43 : decode b_Ga_prove 43 = .ok (.aload_n 0, 1) := by decide +kernel
theorem d_Ga_prove_44 : decode b_Ga_prove 44 = .ok (.getfield 25, 3) := by decide +kernel
theorem d_Ga_prove_47 : decode b_Ga_prove 47 = .ok (.aload_n 0, 1) := by decide +kernel
theorem d_Ga_prove_48 : decode b_Ga_prove 48 = .ok (.getfield 34, 3) := by decide +kernel
theorem d_Ga_prove_51 : decode b_Ga_prove 51 = .ok (.invokevirtual 174, 3) := by decide +kernel
theorem d_Ga_prove_54 : decode b_Ga_prove 54 = .ok (.invokevirtual 178, 3) := by decide +kernel
theorem d_Ga_prove_57 : decode b_Ga_prove 57 = .ok (.iload 4, 2) := by decide +kernel
theorem d_Ga_prove_59 : decode b_Ga_prove 59 = .ok (.ireturn, 1) := by decide +kernel
theorem d_Ga_check_0 : decode b_Ga_check 0 = .ok (.iload_n 1, 1) := by decide +kernel
theorem d_Ga_check_1 : decode b_Ga_check 1 = .ok (.iload_n 2, 1) := by decide +kernel
theorem d_Ga_check_2 : decode b_Ga_check 2 = .ok (.iload_n 3, 1) := by decide +kernel
theorem d_Ga_check_3 : decode b_Ga_check 3 = .ok (.invokestatic 158, 3) := by decide +kernel
theorem d_Ga_check_6 : decode b_Ga_check 6 = .ok (.ifCond .eq 39, 3) := by decide +kernel
theorem d_Ga_check_9 : decode b_Ga_check 9 = .ok (.aload_n 0, 1) := by decide +kernel
theorem d_Ga_check_10 : decode b_Ga_check 10 = .ok (.iload_n 2, 1) := by decide +kernel
theorem d_Ga_check_11 : decode b_Ga_check 11 = .ok (.iload_n 3, 1) := by decide +kernel
theorem d_Ga_check_12 : decode b_Ga_check 12 = .ok (.invokevirtual 162, 3) := by decide +kernel
theorem d_Ga_check_15 : decode b_Ga_check 15 = .ok (.ifCond .eq 30, 3) := by decide +kernel
theorem d_Ga_check_18 : decode b_Ga_check 18 = .ok (.aload_n 0, 1) := by decide +kernel
theorem d_Ga_check_19 : decode b_Ga_check 19 = .ok (.getfield 41, 3) := by decide +kernel
theorem d_Ga_check_22 : decode b_Ga_check 22 = .ok (.aload_n 0, 1) := by decide +kernel
theorem d_Ga_check_23 : decode b_Ga_check 23 = .ok (.getfield 25, 3) := by decide +kernel
theorem d_Ga_check_26 : decode b_Ga_check 26 = .ok (.aload_n 0, 1) := by decide +kernel
theorem d_Ga_check_27 : decode b_Ga_check 27 = .ok (.iload_n 2, 1) := by decide +kernel
theorem d_Ga_check_28 : decode b_Ga_check 28 = .ok (.iload_n 3, 1) := by decide +kernel
theorem d_Ga_check_29 : decode b_Ga_check 29 = .ok (.invokevirtual 166, 3) := by decide +kernel
theorem d_Ga_check_32 : decode b_Ga_check 32 = .ok (.iload_n 1, 1) := by decide +kernel
theorem d_Ga_check_33 : decode b_Ga_check 33 = .ok (.iload_n 2, 1) := by decide +kernel
theorem d_Ga_check_34 : decode b_Ga_check 34 = .ok (.iload_n 3, 1) := by decide +kernel
theorem d_Ga_check_35 : decode b_Ga_check 35 = .ok (.invokevirtual 182, 3) := by decide +kernel
theorem d_Ga_check_38 : decode b_Ga_check 38 = .ok (.ifCond .eq 7, 3) := by decide +kernel
theorem d_Ga_check_41 : decode b_Ga_check 41 = .ok (.iconst 1, 1) := by decide +kernel
theorem d_Ga_check_42 : decode b_Ga_check 42 = .ok (.goto 4, 3) := by decide +kernel
theorem d_Ga_check_45 : decode b_Ga_check 45 = .ok (.iconst 0, 1) := by decide +kernel
theorem d_Ga_check_46 : decode b_Ga_check 46 = .ok (.ireturn, 1) := by decide +kernel
theorem d_Ga_request_0 : decode b_Ga_request 0 = .ok (.iload_n 1, 1) := by decide +kernel
theorem d_Ga_request_1 : decode b_Ga_request 1 = .ok (.iload_n 2, 1) := by decide +kernel
theorem d_Ga_request_2 : decode b_Ga_request 2 = .ok (.iload_n 3, 1) := by decide +kernel
theorem d_Ga_request_3 : decode b_Ga_request 3 = .ok (.invokestatic 158, 3) := by decide +kernel
theorem d_Ga_request_6 : decode b_Ga_request 6 = .ok (.ifCond .ne 13, 3) := by decide +kernel
theorem d_Ga_request_9 : decode b_Ga_request 9 = .ok (.new 86, 3) := by decide +kernel
theorem d_Ga_request_12 : decode b_Ga_request 12 = .ok (.dup, 1) := by decide +kernel
theorem d_Ga_request_13 : decode b_Ga_request 13 = .ok (.ldc 186, 2) := by decide +kernel
theorem d_Ga_request_15 : decode b_Ga_request 15 = .ok (.invokespecial 90, 3) := by decide +kernel
theorem d_Ga_request_18 : decode b_Ga_request 18 = .ok (.athrow, 1) := by decide +kernel
theorem d_Ga_request_19 : decode b_Ga_request 19 = .ok (.aload_n 0, 1) := by decide +kernel
theorem d_Ga_request_20 : decode b_Ga_request 20 = .ok (.iload_n 2, 1) := by decide +kernel
theorem d_Ga_request_21 : decode b_Ga_request 21 = .ok (.iload_n 3, 1) := by decide +kernel
theorem d_Ga_request_22 : decode b_Ga_request 22 = .ok (.invokevirtual 162, 3) := by decide +kernel
theorem d_Ga_request_25 : decode b_Ga_request 25 = .ok (.ifCond .ne 13, 3) := by decide +kernel
theorem d_Ga_request_28 : decode b_Ga_request 28 = .ok (.new 117, 3) := by decide +kernel
theorem d_Ga_request_31 : decode b_Ga_request 31 = .ok (.dup, 1) := by decide +kernel
theorem d_Ga_request_32 : decode b_Ga_request 32 = .ok (.ldc 188, 2) := by decide +kernel
theorem d_Ga_request_34 : decode b_Ga_request 34 = .ok (.invokespecial 121, 3) := by decide +kernel
theorem d_Ga_request_37 : decode b_Ga_request 37 = .ok (.athrow, 1) := by decide +kernel
theorem d_Ga_request_38 : decode b_Ga_request 38 = .ok (.iload 5, 2) := by decide +kernel
theorem d_Ga_request_40 : decode b_Ga_request 40 = .ok (.ifCond .eq 13, 3) := by decide +kernel
theorem d_Ga_request_43 : decode b_Ga_request 43 = .ok (.aload_n 0, 1) := by decide +kernel
theorem d_Ga_request_44 : decode b_Ga_request 44 = .ok (.iload_n 1, 1) := by decide +kernel
theorem d_Ga_request_45 : decode b_Ga_request 45 = .ok (.iload_n 2, 1) := by decide +kernel
theorem d_Ga_request_46 : decode b_Ga_request 46 = .ok (.iload_n 3, 1) := by decide +kernel
theorem d_Ga_request_47 : decode b_Ga_request 47 = .ok (.invokevirtual 190, 3) := by decide +kernel
theorem d_Ga_request_50 : decode b_Ga_request 50 = .ok (.goto 19, 3) := by decide +kernel
theorem d_Ga_request_53 : decode b_Ga_request 53 = .ok (.aload_n 0, 1) := by decide +kernel
theorem d_Ga_request_54 : decode b_Ga_request 54 = .ok (.getfield 34, 3) := by decide +kernel
theorem d_Ga_request_57 : decode b_Ga_request 57 = .ok (.aload_n 0, 1) := by decide +kernel
theorem d_Ga_request_58 : decode b_Ga_request 58 = .ok (.iload_n 2, 1) := by decide +kernel
theorem d_Ga_request_59 : decode b_Ga_request 59 = .ok (.iload_n 3, 1) := by decide +kernel
theorem d_Ga_request_60 : decode b_Ga_request 60 = .ok (.invokevirtual 166, 3) := by decide +kernel
theorem d_Ga_request_63 : decode b_Ga_request 63 = .ok (.iload_n 1, 1) := by decide +kernel
theorem d_Ga_request_64 : decode b_Ga_request 64 = .ok (.iload_n 2, 1) := by decide +kernel
theorem d_Ga_request_65 : decode b_Ga_request 65 = .ok (.iload_n 3, 1) := by decide +kernel
theorem d_Ga_request_66 : decode b_Ga_request 66 = .ok (.invokevirtual 170, 3) := by decide +kernel
theorem d_Ga_request_69 : decode b_Ga_request 69 = .ok (.istore 6, 2) := by decide +kernel
theorem d_Ga_request_71 : decode b_Ga_request 71 = .ok (.iload 6, 2) := by decide +kernel
theorem d_Ga_request_73 : decode b_Ga_request 73 = .ok (.ifCond .gt 13, 3) := by decide +kernel
theorem d_Ga_request_76 : decode b_Ga_request 76 = .ok (.new 93, 3) := by decide +kernel
theorem d_Ga_request_79 : decode b_Ga_request 79 = .ok (.dup, 1) := by decide +kernel
theorem d_Ga_request_80 : decode b_Ga_request 80 = .ok (.ldc 193, 2) := by decide +kernel
theorem d_Ga_request_82 : decode b_Ga_request 82 = .ok (.invokespecial 97, 3) := by decide +kernel
theorem d_Ga_request_85 : decode b_Ga_request 85 = .ok (.athrow, 1) := by decide +kernel
theorem d_Ga_request_86 : decode b_Ga_request 86 = .ok (.aload_n 0, 1) := by decide +kernel
theorem d_Ga_request_87 : decode b_Ga_request 87 = .ok (.invokevirtual 107, 3) := by decide +kernel
theorem d_Ga_request_90 : decode b_Ga_request 90 = .ok (.aload_n 0, 1) := by decide +kernel
theorem d_Ga_request_91 : decode b_Ga_request 91 = .ok (.getfield 48, 3) := by decide +kernel
theorem d_Ga_request_94 : decode b_Ga_request 94 = .ok (.iload_n 1, 1) := by decide +kernel
theorem d_Ga_request_95 : decode b_Ga_request 95 = .ok (.iload_n 2, 1) := by decide +kernel
theorem d_Ga_request_96 : decode b_Ga_request 96 = .ok (.iload_n 3, 1) := by decide +kernel
theorem d_Ga_request_97 : decode b_Ga_request 97 = .ok (.iload 6, 2) := by decide +kernel
theorem d_Ga_request_99 : decode b_Ga_request 99 = .ok (.invokevirtual 195, 3) := by decide +kernel
theorem d_Ga_request_102 : decode b_Ga_request 102 = .ok (.aload_n 0, 1) := by decide +kernel
theorem d_Ga_request_103 : decode b_Ga_request 103 = .ok (.iload_n 1, 1) := by decide +kernel
theorem d_Ga_request_104 : decode b_Ga_request 104 = .ok (.iload_n 2, 1) := by decide +kernel
theorem d_Ga_request_105 : decode b_Ga_request 105 = .ok (.iload_n 3, 1) := by decide +kernel
theorem d_Ga_request_106 : decode b_Ga_request 106 = .ok (.iload 4, 2) := by decide +kernel
theorem d_Ga_request_108 : decode b_Ga_request 108 = .ok (.invokevirtual 199, 3) := by decide +kernel
theorem d_Ga_request_111 : decode b_Ga_request 111 = .ok (.ireturn, 1) := by decide +kernel
theorem d_Ga_fuse_0 : decode b_Ga_fuse 0 = .ok (.iload_n 1, 1) := by decide +kernel
theorem d_Ga_fuse_1 : decode b_Ga_fuse 1 = .ok (.ifCond .lt 9, 3) := by decide +kernel
theorem d_Ga_fuse_4 : decode b_Ga_fuse 4 = .ok (.iload_n 1, 1) := by decide +kernel
theorem d_Ga_fuse_5 : decode b_Ga_fuse 5 = .ok (.bipush 50, 2) := by decide +kernel
theorem d_Ga_fuse_7 : decode b_Ga_fuse 7 = .ok (.if_icmp .le 5, 3) := by decide +kernel
theorem d_Ga_fuse_10 : decode b_Ga_fuse 10 = .ok (.iconst 0, 1) := by decide +kernel
theorem d_Ga_fuse_11 : decode b_Ga_fuse 11 = .ok (.ireturn, 1) := by decide +kernel
theorem d_Ga_fuse_12 : decode b_Ga_fuse 12 = .ok (.aload_n 0, 1) := by decide +kernel
theorem d_Ga_fuse_13 : decode b_Ga_fuse 13 = .ok (.getfield 55, 3) := by decide +kernel
theorem d_Ga_fuse_16 : decode b_Ga_fuse 16 = .ok (.iload_n 1, 1) := by decide +kernel
theorem d_Ga_fuse_17 : decode b_Ga_fuse 17 = .ok (.invokevirtual 202, 3) := by decide +kernel
theorem d_Ga_fuse_20 : decode b_Ga_fuse 20 = .ok (.iconst 1, 1) := by decide +kernel
theorem d_Ga_fuse_21 : decode b_Ga_fuse 21 = .ok (.ireturn, 1) := by decide +kernel
theorem d_Ga_owner_0 : decode b_Ga_owner 0 = .ok (.iload_n 1, 1) := by decide +kernel
theorem d_Ga_owner_1 : decode b_Ga_owner 1 = .ok (.invokestatic 206, 3) := by decide +kernel
theorem d_Ga_owner_4 : decode b_Ga_owner 4 = .ok (.ifCond .eq 12, 3) := by decide +kernel
theorem d_Ga_owner_7 : decode b_Ga_owner 7 = .ok (.aload_n 0, 1) := by decide +kernel
theorem d_Ga_owner_8 : decode b_Ga_owner 8 = .ok (.getfield 59, 3) := by decide +kernel
theorem d_Ga_owner_11 : decode b_Ga_owner 11 = .ok (.iload_n 1, 1) := by decide +kernel
theorem d_Ga_owner_12 : decode b_Ga_owner 12 = .ok (.iaload, 1) := by decide +kernel
theorem d_Ga_owner_13 : decode b_Ga_owner 13 = .ok (.goto 4, 3) := by decide +kernel
theorem d_Ga_owner_16 : decode b_Ga_owner 16 = .ok (.iconst (-1), 1) := by decide +kernel
theorem d_Ga_owner_17 : decode b_Ga_owner 17 = .ok (.ireturn, 1) := by decide +kernel
theorem d_Ga_credentials_0 : decode b_Ga_credentials 0 = .ok (.aload_n 0, 1) := by decide +kernel
theorem d_Ga_credentials_1 : decode b_Ga_credentials 1 = .ok (.getfield 18, 3) := by decide +kernel
theorem d_Ga_credentials_4 : decode b_Ga_credentials 4 = .ok (.invokevirtual 98, 3) := by decide +kernel
theorem d_Ga_credentials_7 : decode b_Ga_credentials 7 = .ok (.ireturn, 1) := by decide +kernel
theorem d_Ga_valid_0 : decode b_Ga_valid 0 = .ok (.aload_n 0, 1) := by decide +kernel
theorem d_Ga_valid_1 : decode b_Ga_valid 1 = .ok (.getfield 18, 3) := by decide +kernel
theorem d_Ga_valid_4 : decode b_Ga_valid 4 = .ok (.iload_n 1, 1) := by decide +kernel
theorem d_Ga_valid_5 : decode b_Ga_valid 5 = .ok (.invokevirtual 209, 3) := by decide +kernel
theorem d_Ga_valid_8 : decode b_Ga_valid 8 = .ok (.ifnull 7, 3) := by decide +kernel
theorem d_Ga_valid_11 : decode b_Ga_valid 11 = .ok (.iconst 1, 1) := by decide +kernel
theorem d_Ga_valid_12 : decode b_Ga_valid 12 = .ok (.goto 4, 3) := by decide +kernel
theorem d_Ga_valid_15 : decode b_Ga_valid 15 = .ok (.iconst 0, 1) := by decide +kernel
theorem d_Ga_valid_16 : decode b_Ga_valid 16 = .ok (.ireturn, 1) := by decide +kernel
theorem d_Ga_grants_0 : decode b_Ga_grants 0 = .ok (.aload_n 0, 1) := by decide +kernel
theorem d_Ga_grants_1 : decode b_Ga_grants 1 = .ok (.getfield 48, 3) := by decide +kernel
theorem d_Ga_grants_4 : decode b_Ga_grants 4 = .ok (.invokevirtual 212, 3) := by decide +kernel
theorem d_Ga_grants_7 : decode b_Ga_grants 7 = .ok (.ireturn, 1) := by decide +kernel
theorem d_Ga_chain_0 : decode b_Ga_chain 0 = .ok (.aload_n 0, 1) := by decide +kernel
theorem d_Ga_chain_1 : decode b_Ga_chain 1 = .ok (.getfield 48, 3) := by decide +kernel
theorem d_Ga_chain_4 : decode b_Ga_chain 4 = .ok (.invokevirtual 213, 3) := by decide +kernel
theorem d_Ga_chain_7 : decode b_Ga_chain 7 = .ok (.ireturn, 1) := by decide +kernel
theorem d_Ga_sealOf_0 : decode b_Ga_sealOf 0 = .ok (.aload_n 0, 1) := by decide +kernel
theorem d_Ga_sealOf_1 : decode b_Ga_sealOf 1 = .ok (.getfield 65, 3) := by decide +kernel
theorem d_Ga_sealOf_4 : decode b_Ga_sealOf 4 = .ok (.bipush 97, 2) := by decide +kernel
theorem d_Ga_sealOf_6 : decode b_Ga_sealOf 6 = .ok (.aload_n 1, 1) := by decide +kernel
theorem d_Ga_sealOf_7 : decode b_Ga_sealOf 7 = .ok (.getfield 122, 3) := by decide +kernel
theorem d_Ga_sealOf_10 : decode b_Ga_sealOf 10 = .ok (.imul, 1) := by decide +kernel
theorem d_Ga_sealOf_11 : decode b_Ga_sealOf 11 = .ok (.iadd, 1) := by decide +kernel
theorem d_Ga_sealOf_12 : decode b_Ga_sealOf 12 = .ok (.istore_n 2, 1) := by decide +kernel
theorem d_Ga_sealOf_13 : decode b_Ga_sealOf 13 = .ok (.aload_n 1, 1) := by decide +kernel
theorem d_Ga_sealOf_14 : decode b_Ga_sealOf 14 = .ok (.invokevirtual 216, 3) := by decide +kernel
theorem d_Ga_sealOf_17 : decode b_Ga_sealOf 17 = .ok (.iload_n 2, 1) := by decide +kernel
theorem d_Ga_sealOf_18 : decode b_Ga_sealOf 18 = .ok (.ixor, 1) := by decide +kernel
theorem d_Ga_sealOf_19 : decode b_Ga_sealOf 19 = .ok (.ldc 219, 2) := by decide +kernel
theorem d_Ga_sealOf_21 : decode b_Ga_sealOf 21 = .ok (.imul, 1) := by decide +kernel
theorem d_Ga_sealOf_22 : decode b_Ga_sealOf 22 = .ok (.ireturn, 1) := by decide +kernel
theorem d_Ga_writeRecord_0 : decode b_Ga_writeRecord 0 = .ok (.aload_n 0, 1) := by decide +kernel
theorem d_Ga_writeRecord_1 : decode b_Ga_writeRecord 1 = .ok (.getfield 55, 3) := by decide +kernel
theorem d_Ga_writeRecord_4 : decode b_Ga_writeRecord 4 = .ok (.invokevirtual 220, 3) := by decide +kernel
theorem d_Ga_writeRecord_7 : decode b_Ga_writeRecord 7 = .ok (.ifCond .eq 21, 3) := by decide +kernel
theorem d_Ga_writeRecord_10 : decode b_Ga_writeRecord 10 = .ok (.aload_n 0, 1) := by decide +kernel
theorem d_Ga_writeRecord_11 : decode b_Ga_writeRecord 11 = .ok (.getfield 25, 3) := by decide +kernel
theorem d_Ga_writeRecord_14 : decode b_Ga_writeRecord 14 = .ok (.invokevirtual 139, 3) := by decide +kernel
theorem d_Ga_writeRecord_17 : decode b_Ga_writeRecord 17 = .ok (.pop, 1) := by decide +kernel
theorem d_Ga_writeRecord_18 : decode b_Ga_writeRecord 18 = .ok (.new 102, 3) := by decide +kernel
theorem d_Ga_writeRecord_21 : decode b_Ga_writeRecord 21 = .ok (.dup, 1) := by decide +kernel
theorem d_Ga_writeRecord_22 : decode b_Ga_writeRecord 22 = .ok (.ldc 223, 2) := by decide +kernel
theorem d_Ga_writeRecord_24 : decode b_Ga_writeRecord 24 = .ok (.invokespecial 106, 3) := by decide +kernel
theorem d_Ga_writeRecord_27 : decode b_Ga_writeRecord 27 = .ok (.athrow, 1) := by decide +kernel
theorem d_Ga_writeRecord_28 : decode b_Ga_writeRecord 28 = .ok (.return_, 1) := by decide +kernel
theorem d_Ga_useUpDraft_0 : decode b_Ga_useUpDraft 0 = .ok (.aload_n 0, 1) := by decide +kernel
theorem d_Ga_useUpDraft_1 : decode b_Ga_useUpDraft 1 = .ok (.getfield 41, 3) := by decide +kernel
theorem d_Ga_useUpDraft_4 : decode b_Ga_useUpDraft 4 = .ok (.aload_n 0, 1) := by decide +kernel
theorem d_Ga_useUpDraft_5 : decode b_Ga_useUpDraft 5 = .ok (.getfield 25, 3) := by decide +kernel
theorem d_Ga_useUpDraft_8 : decode b_Ga_useUpDraft 8 = .ok (.aload_n 0, 1) := by decide +kernel
theorem d_Ga_useUpDraft_9 : decode b_Ga_useUpDraft 9 = .ok (.iload_n 2, 1) := by decide +kernel
theorem d_Ga_useUpDraft_10 : decode b_Ga_useUpDraft 10 = .ok (.iload_n 3, 1) := by decide +kernel
theorem d_Ga_useUpDraft_11 : decode b_Ga_useUpDraft 11 = .ok (.invokevirtual 166, 3) := by decide +kernel
theorem d_Ga_useUpDraft_14 : decode b_Ga_useUpDraft 14 = .ok (.iload_n 1, 1) := by decide +kernel
theorem d_Ga_useUpDraft_15 : decode b_Ga_useUpDraft 15 = .ok (.iload_n 2, 1) := by decide +kernel
theorem d_Ga_useUpDraft_16 : decode b_Ga_useUpDraft 16 = .ok (.iload_n 3, 1) := by decide +kernel
theorem d_Ga_useUpDraft_17 : decode b_Ga_useUpDraft 17 = .ok (.invokevirtual 182, 3) := by decide +kernel
theorem d_Ga_useUpDraft_20 : decode b_Ga_useUpDraft 20 = .ok (.istore 4, 2) := by decide +kernel
theorem d_Ga_useUpDraft_22 : decode b_Ga_useUpDraft 22 = .ok (.aload_n 0, 1) := by decide +kernel
theorem d_Ga_useUpDraft_23 : decode b_Ga_useUpDraft 23 = .ok (.getfield 25, 3) := by decide +kernel
theorem d_Ga_useUpDraft_26 : decode b_Ga_useUpDraft 26 = .ok (.invokevirtual 139, 3) := by decide +kernel
theorem d_Ga_useUpDraft_29 : decode b_Ga_useUpDraft 29 = .ok (.istore 5, 2) := by decide +kernel
theorem d_Ga_useUpDraft_31 : decode b_Ga_useUpDraft 31 = .ok (.iload 4, 2) := by decide +kernel
theorem d_Ga_useUpDraft_33 : decode b_Ga_useUpDraft 33 = .ok (.ifCond .eq 8, 3) := by decide +kernel
theorem d_Ga_useUpDraft_36 : decode b_Ga_useUpDraft 36 = .ok (.iload 5, 2) := by decide +kernel
theorem d_Ga_useUpDraft_38 : decode b_Ga_useUpDraft 38 = .ok (.goto 4, 3) := by decide +kernel
theorem d_Ga_useUpDraft_41 : decode b_Ga_useUpDraft 41 = .ok (.iconst 0, 1) := by decide +kernel
theorem d_Ga_useUpDraft_42 : decode b_Ga_useUpDraft 42 = .ok (.ireturn, 1) := by decide +kernel
theorem d_Ga_carryOut_0 : decode b_Ga_carryOut 0 = .ok (.aload_n 0, 1) := by decide +kernel
theorem d_Ga_carryOut_1 : decode b_Ga_carryOut 1 = .ok (.getfield 59, 3) := by decide +kernel
theorem d_Ga_carryOut_4 : decode b_Ga_carryOut 4 = .ok (.iload_n 3, 1) := by decide +kernel
theorem d_Ga_carryOut_5 : decode b_Ga_carryOut 5 = .ok (.iaload, 1) := by decide +kernel
theorem d_Ga_carryOut_6 : decode b_Ga_carryOut 6 = .ok (.istore 5, 2) := by decide +kernel
theorem d_Ga_carryOut_8 : decode b_Ga_carryOut 8 = .ok (.aload_n 0, 1) := by decide +kernel
theorem d_Ga_carryOut_9 : decode b_Ga_carryOut 9 = .ok (.getfield 62, 3) := by decide +kernel
theorem d_Ga_carryOut_12 : decode b_Ga_carryOut 12 = .ok (.iload_n 3, 1) := by decide +kernel
theorem d_Ga_carryOut_13 : decode b_Ga_carryOut 13 = .ok (.iaload, 1) := by decide +kernel
theorem d_Ga_carryOut_14 : decode b_Ga_carryOut 14 = .ok (.istore 6, 2) := by decide +kernel
theorem d_Ga_carryOut_16 : decode b_Ga_carryOut 16 = .ok (.iload_n 2, 1) := by decide +kernel
theorem d_Ga_carryOut_17 : decode b_Ga_carryOut 17 = .ok (.tableswitch 64 0 2 #[27, 30, 41], 27) := by decide +kernel
theorem d_Ga_carryOut_44 : decode b_Ga_carryOut 44 = .ok (.iload 6, 2) := by decide +kernel
theorem d_Ga_carryOut_46 : decode b_Ga_carryOut 46 = .ok (.ireturn, 1) := by decide +kernel
theorem d_Ga_carryOut_47 : decode b_Ga_carryOut 47 = .ok (.aload_n 0, 1) := by decide +kernel
theorem d_Ga_carryOut_48 : decode b_Ga_carryOut 48 = .ok (.getfield 62, 3) := by decide +kernel
theorem d_Ga_carryOut_51 : decode b_Ga_carryOut 51 = .ok (.iload_n 3, 1) := by decide +kernel
theorem d_Ga_carryOut_52 : decode b_Ga_carryOut 52 = .ok (.iload 4, 2) := by decide +kernel
theorem d_Ga_carryOut_54 : decode b_Ga_carryOut 54 = .ok (.iastore, 1) := by decide +kernel
theorem d_Ga_carryOut_55 : decode b_Ga_carryOut 55 = .ok (.iload 6, 2) := by decide +kernel
theorem d_Ga_carryOut_57 : decode b_Ga_carryOut 57 = .ok (.ireturn, 1) := by decide +kernel
theorem d_Ga_carryOut_58 : decode b_Ga_carryOut 58 = .ok (.aload_n 0, 1) := by decide +kernel
theorem d_Ga_carryOut_59 : decode b_Ga_carryOut 59 = .ok (.getfield 59, 3) := by decide +kernel
theorem d_Ga_carryOut_62 : decode b_Ga_carryOut 62 = .ok (.iload_n 3, 1) := by decide +kernel
theorem d_Ga_carryOut_63 : decode b_Ga_carryOut 63 = .ok (.iload 4, 2) := by decide +kernel
theorem d_Ga_carryOut_65 : decode b_Ga_carryOut 65 = .ok (.invokestatic 225, 3) := by decide +kernel
theorem d_Ga_carryOut_68 : decode b_Ga_carryOut 68 = .ok (.ifCond .eq 8, 3) := by decide +kernel
theorem d_Ga_carryOut_71 : decode b_Ga_carryOut 71 = .ok (.iload 4, 2) := by decide +kernel
theorem d_Ga_carryOut_73 : decode b_Ga_carryOut 73 = .ok (.goto 4, 3) := by decide +kernel
theorem d_Ga_carryOut_76 : decode b_Ga_carryOut 76 = .ok (.iconst (-1), 1) := by decide +kernel
theorem d_Ga_carryOut_77 : decode b_Ga_carryOut 77 = .ok (.iastore, 1) := by decide +kernel
theorem d_Ga_carryOut_78 : decode b_Ga_carryOut 78 = .ok (.iload 5, 2) := by decide +kernel
theorem d_Ga_carryOut_80 : decode b_Ga_carryOut 80 = .ok (.ireturn, 1) := by decide +kernel
theorem d_Ga_carryOut_81 : decode b_Ga_carryOut 81 = .ok (.aload_n 0, 1) := by decide +kernel
theorem d_Ga_carryOut_82 : decode b_Ga_carryOut 82 = .ok (.getfield 59, 3) := by decide +kernel
theorem d_Ga_carryOut_85 : decode b_Ga_carryOut 85 = .ok (.iload_n 3, 1) := by decide +kernel
theorem d_Ga_carryOut_86 : decode b_Ga_carryOut 86 = .ok (.iload_n 1, 1) := by decide +kernel
theorem d_Ga_carryOut_87 : decode b_Ga_carryOut 87 = .ok (.iastore, 1) := by decide +kernel
theorem d_Ga_carryOut_88 : decode b_Ga_carryOut 88 = .ok (.aload_n 0, 1) := by decide +kernel
theorem d_Ga_carryOut_89 : decode b_Ga_carryOut 89 = .ok (.getfield 62, 3) := by decide +kernel
theorem d_Ga_carryOut_92 : decode b_Ga_carryOut 92 = .ok (.iload_n 3, 1) := by decide +kernel
theorem d_Ga_carryOut_93 : decode b_Ga_carryOut 93 = .ok (.iload 4, 2) := by decide +kernel
theorem d_Ga_carryOut_95 : decode b_Ga_carryOut 95 = .ok (.iastore, 1) := by decide +kernel
theorem d_Ga_carryOut_96 : decode b_Ga_carryOut 96 = .ok (.iconst 0, 1) := by decide +kernel
theorem d_Ga_carryOut_97 : decode b_Ga_carryOut 97 = .ok (.ireturn, 1) := by decide +kernel
theorem d_Ga_sayerOfGoal_0 : decode b_Ga_sayerOfGoal 0 = .ok (.iload_n 1, 1) := by decide +kernel
theorem d_Ga_sayerOfGoal_1 : decode b_Ga_sayerOfGoal 1 = .ok (.iconst 3, 1) := by decide +kernel
theorem d_Ga_sayerOfGoal_2 : decode b_Ga_sayerOfGoal 2 = .ok (.if_icmp .ne 7, 3) := by decide +kernel
theorem d_Ga_sayerOfGoal_5 : decode b_Ga_sayerOfGoal 5 = .ok (.iconst 0, 1) := by decide +kernel
theorem d_Ga_sayerOfGoal_6 : decode b_Ga_sayerOfGoal 6 = .ok (.goto 9, 3) := by decide +kernel
theorem d_Ga_sayerOfGoal_9 : decode b_Ga_sayerOfGoal 9 = .ok (.aload_n 0, 1) := by decide +kernel
theorem d_Ga_sayerOfGoal_10 : decode b_Ga_sayerOfGoal 10 = .ok (.getfield 59, 3) := by decide +kernel
theorem d_Ga_sayerOfGoal_13 : decode b_Ga_sayerOfGoal 13 = .ok (.iload_n 2, 1) := by decide +kernel
theorem d_Ga_sayerOfGoal_14 : decode b_Ga_sayerOfGoal 14 = .ok (.iaload, 1) := by decide +kernel
theorem d_Ga_sayerOfGoal_15 : decode b_Ga_sayerOfGoal 15 = .ok (.ireturn, 1) := by decide +kernel
theorem d_Ga_isOpenTo_0 : decode b_Ga_isOpenTo 0 = .ok (.iload_n 1, 1) := by decide +kernel
theorem d_Ga_isOpenTo_1 : decode b_Ga_isOpenTo 1 = .ok (.iconst 3, 1) := by decide +kernel
theorem d_Ga_isOpenTo_2 : decode b_Ga_isOpenTo 2 = .ok (.if_icmp .ne 7, 3) := by decide +kernel
theorem d_Ga_isOpenTo_5 : decode b_Ga_isOpenTo 5 = .ok (.iconst 1, 1) := by decide +kernel
theorem d_Ga_isOpenTo_6 : decode b_Ga_isOpenTo 6 = .ok (.goto 4, 3) := by decide +kernel
theorem d_Ga_isOpenTo_9 : decode b_Ga_isOpenTo 9 = .ok (.iconst 0, 1) := by decide +kernel
theorem d_Ga_isOpenTo_10 : decode b_Ga_isOpenTo 10 = .ok (.aload_n 0, 1) := by decide +kernel
theorem d_Ga_isOpenTo_11 : decode b_Ga_isOpenTo 11 = .ok (.getfield 59, 3) := by decide +kernel
theorem d_Ga_isOpenTo_14 : decode b_Ga_isOpenTo 14 = .ok (.iload_n 2, 1) := by decide +kernel
theorem d_Ga_isOpenTo_15 : decode b_Ga_isOpenTo 15 = .ok (.iaload, 1) := by decide +kernel
theorem d_Ga_isOpenTo_16 : decode b_Ga_isOpenTo 16 = .ok (.iconst (-1), 1) := by decide +kernel
theorem d_Ga_isOpenTo_17 : decode b_Ga_isOpenTo 17 = .ok (.if_icmp .ne 7, 3) := by decide +kernel
theorem d_Ga_isOpenTo_20 : decode b_Ga_isOpenTo 20 = .ok (.iconst 1, 1) := by decide +kernel
theorem d_Ga_isOpenTo_21 : decode b_Ga_isOpenTo 21 = .ok (.goto 4, 3) := by decide +kernel
theorem d_Ga_isOpenTo_24 : decode b_Ga_isOpenTo 24 = .ok (.iconst 0, 1) := by decide +kernel
theorem d_Ga_isOpenTo_25 : decode b_Ga_isOpenTo 25 = .ok (.if_icmp .ne 7, 3) := by decide +kernel
theorem d_Ga_isOpenTo_28 : decode b_Ga_isOpenTo 28 = .ok (.iconst 1, 1) := by decide +kernel
theorem d_Ga_isOpenTo_29 : decode b_Ga_isOpenTo 29 = .ok (.goto 4, 3) := by decide +kernel
theorem d_Ga_isOpenTo_32 : decode b_Ga_isOpenTo 32 = .ok (.iconst 0, 1) := by decide +kernel
theorem d_Ga_isOpenTo_33 : decode b_Ga_isOpenTo 33 = .ok (.ireturn, 1) := by decide +kernel
theorem d_Ga_isNamed_0 : decode b_Ga_isNamed 0 = .ok (.iload_n 0, 1) := by decide +kernel
theorem d_Ga_isNamed_1 : decode b_Ga_isNamed 1 = .ok (.invokestatic 225, 3) := by decide +kernel
theorem d_Ga_isNamed_4 : decode b_Ga_isNamed 4 = .ok (.ifCond .eq 23, 3) := by decide +kernel
theorem d_Ga_isNamed_7 : decode b_Ga_isNamed 7 = .ok (.iload_n 1, 1) := by decide +kernel
theorem d_Ga_isNamed_8 : decode b_Ga_isNamed 8 = .ok (.ifCond .lt 19, 3) := by decide +kernel
theorem d_Ga_isNamed_11 : decode b_Ga_isNamed 11 = .ok (.iload_n 1, 1) := by decide +kernel
theorem d_Ga_isNamed_12 : decode b_Ga_isNamed 12 = .ok (.iconst 4, 1) := by decide +kernel
theorem d_Ga_isNamed_13 : decode b_Ga_isNamed 13 = .ok (.if_icmp .ge 14, 3) := by decide +kernel
theorem d_Ga_isNamed_16 : decode b_Ga_isNamed 16 = .ok (.iload_n 2, 1) := by decide +kernel
theorem d_Ga_isNamed_17 : decode b_Ga_isNamed 17 = .ok (.invokestatic 206, 3) := by decide +kernel
theorem d_Ga_isNamed_20 : decode b_Ga_isNamed 20 = .ok (.ifCond .eq 7, 3) := by decide +kernel
theorem d_Ga_isNamed_23 : decode b_Ga_isNamed 23 = .ok (.iconst 1, 1) := by decide +kernel
theorem d_Ga_isNamed_24 : decode b_Ga_isNamed 24 = .ok (.goto 4, 3) := by decide +kernel
theorem d_Ga_isNamed_27 : decode b_Ga_isNamed 27 = .ok (.iconst 0, 1) := by decide +kernel
theorem d_Ga_isNamed_28 : decode b_Ga_isNamed 28 = .ok (.ireturn, 1) := by decide +kernel
theorem d_Ga_isPrincipal_0 : decode b_Ga_isPrincipal 0 = .ok (.iload_n 0, 1) := by decide +kernel
theorem d_Ga_isPrincipal_1 : decode b_Ga_isPrincipal 1 = .ok (.ifCond .lt 13, 3) := by decide +kernel
theorem d_Ga_isPrincipal_4 : decode b_Ga_isPrincipal 4 = .ok (.iload_n 0, 1) := by decide +kernel
theorem d_Ga_isPrincipal_5 : decode b_Ga_isPrincipal 5 = .ok (.bipush 6, 2) := by decide +kernel
theorem d_Ga_isPrincipal_7 : decode b_Ga_isPrincipal 7 = .ok (.if_icmp .ge 7, 3) := by decide +kernel
theorem d_Ga_isPrincipal_10 : decode b_Ga_isPrincipal 10 = .ok (.iconst 1, 1) := by decide +kernel
theorem d_Ga_isPrincipal_11 : decode b_Ga_isPrincipal 11 = .ok (.goto 4, 3) := by decide +kernel
theorem d_Ga_isPrincipal_14 : decode b_Ga_isPrincipal 14 = .ok (.iconst 0, 1) := by decide +kernel
theorem d_Ga_isPrincipal_15 : decode b_Ga_isPrincipal 15 = .ok (.ireturn, 1) := by decide +kernel
theorem d_Ga_isObject_0 : decode b_Ga_isObject 0 = .ok (.iload_n 0, 1) := by decide +kernel
theorem d_Ga_isObject_1 : decode b_Ga_isObject 1 = .ok (.ifCond .lt 13, 3) := by decide +kernel
theorem d_Ga_isObject_4 : decode b_Ga_isObject 4 = .ok (.iload_n 0, 1) := by decide +kernel
theorem d_Ga_isObject_5 : decode b_Ga_isObject 5 = .ok (.bipush 6, 2) := by decide +kernel
theorem d_Ga_isObject_7 : decode b_Ga_isObject 7 = .ok (.if_icmp .ge 7, 3) := by decide +kernel
theorem d_Ga_isObject_10 : decode b_Ga_isObject 10 = .ok (.iconst 1, 1) := by decide +kernel
theorem d_Ga_isObject_11 : decode b_Ga_isObject 11 = .ok (.goto 4, 3) := by decide +kernel
theorem d_Ga_isObject_14 : decode b_Ga_isObject 14 = .ok (.iconst 0, 1) := by decide +kernel
theorem d_Ga_isObject_15 : decode b_Ga_isObject 15 = .ok (.ireturn, 1) := by decide +kernel
end
section
theorem d_Mo_init_0 : decode b_Mo_init 0 = .ok (.aload_n 0, 1) := by decide +kernel
theorem d_Mo_init_1 : decode b_Mo_init 1 = .ok (.invokespecial 1, 3) := by decide +kernel
theorem d_Mo_init_4 : decode b_Mo_init 4 = .ok (.aload_n 0, 1) := by decide +kernel
theorem d_Mo_init_5 : decode b_Mo_init 5 = .ok (.bipush 6, 2) := by decide +kernel
theorem d_Mo_init_7 : decode b_Mo_init 7 = .ok (.newarray .boolean, 2) := by decide +kernel
theorem d_Mo_init_9 : decode b_Mo_init 9 = .ok (.putfield 7, 3) := by decide +kernel
theorem d_Mo_init_12 : decode b_Mo_init 12 = .ok (.aload_n 0, 1) := by decide +kernel
theorem d_Mo_init_13 : decode b_Mo_init 13 = .ok (.bipush 6, 2) := by decide +kernel
theorem d_Mo_init_15 : decode b_Mo_init 15 = .ok (.newarray .int, 2) := by decide +kernel
theorem d_Mo_init_17 : decode b_Mo_init 17 = .ok (.putfield 13, 3) := by decide +kernel
theorem d_Mo_init_20 : decode b_Mo_init 20 = .ok (.aload_n 0, 1) := by decide +kernel
theorem d_Mo_init_21 : decode b_Mo_init 21 = .ok (.bipush 6, 2) := by decide +kernel
theorem d_Mo_init_23 : decode b_Mo_init 23 = .ok (.newarray .int, 2) := by decide +kernel
theorem d_Mo_init_25 : decode b_Mo_init 25 = .ok (.putfield 17, 3) := by decide +kernel
theorem d_Mo_init_28 : decode b_Mo_init 28 = .ok (.aload_n 0, 1) := by decide +kernel
theorem d_Mo_init_29 : decode b_Mo_init 29 = .ok (.bipush 25, 2) := by decide +kernel
theorem d_Mo_init_31 : decode b_Mo_init 31 = .ok (.newarray .int, 2) := by decide +kernel
theorem d_Mo_init_33 : decode b_Mo_init 33 = .ok (.putfield 20, 3) := by decide +kernel
theorem d_Mo_init_36 : decode b_Mo_init 36 = .ok (.aload_n 0, 1) := by decide +kernel
theorem d_Mo_init_37 : decode b_Mo_init 37 = .ok (.bipush 25, 2) := by decide +kernel
theorem d_Mo_init_39 : decode b_Mo_init 39 = .ok (.newarray .int, 2) := by decide +kernel
theorem d_Mo_init_41 : decode b_Mo_init 41 = .ok (.putfield 23, 3) := by decide +kernel
theorem d_Mo_init_44 : decode b_Mo_init 44 = .ok (.aload_n 0, 1) := by decide +kernel
theorem d_Mo_init_45 : decode b_Mo_init 45 = .ok (.bipush 25, 2) := by decide +kernel
theorem d_Mo_init_47 : decode b_Mo_init 47 = .ok (.newarray .int, 2) := by decide +kernel
theorem d_Mo_init_49 : decode b_Mo_init 49 = .ok (.putfield 26, 3) := by decide +kernel
theorem d_Mo_init_52 : decode b_Mo_init 52 = .ok (.aload_n 0, 1) := by decide +kernel
theorem d_Mo_init_53 : decode b_Mo_init 53 = .ok (.bipush 25, 2) := by decide +kernel
theorem d_Mo_init_55 : decode b_Mo_init 55 = .ok (.newarray .int, 2) := by decide +kernel
theorem d_Mo_init_57 : decode b_Mo_init 57 = .ok (.putfield 29, 3) := by decide +kernel
theorem d_Mo_init_60 : decode b_Mo_init 60 = .ok (.aload_n 0, 1) := by decide +kernel
theorem d_Mo_init_61 : decode b_Mo_init 61 = .ok (.bipush 25, 2) := by decide +kernel
theorem d_Mo_init_63 : decode b_Mo_init 63 = .ok (.newarray .int, 2) := by decide +kernel
theorem d_Mo_init_65 : decode b_Mo_init 65 = .ok (.putfield 32, 3) := by decide +kernel
theorem d_Mo_init_68 : decode b_Mo_init 68 = .ok (.aload_n 0, 1) := by decide +kernel
theorem d_Mo_init_69 : decode b_Mo_init 69 = .ok (.bipush 25, 2) := by decide +kernel
theorem d_Mo_init_71 : decode b_Mo_init 71 = .ok (.newarray .int, 2) := by decide +kernel
theorem d_Mo_init_73 : decode b_Mo_init 73 = .ok (.putfield 35, 3) := by decide +kernel
theorem d_Mo_init_76 : decode b_Mo_init 76 = .ok (.aload_n 0, 1) := by decide +kernel
theorem d_Mo_init_77 : decode b_Mo_init 77 = .ok (.bipush 25, 2) := by decide +kernel
theorem d_Mo_init_79 : decode b_Mo_init 79 = .ok (.newarray .int, 2) := by decide +kernel
theorem d_Mo_init_81 : decode b_Mo_init 81 = .ok (.putfield 38, 3) := by decide +kernel
theorem d_Mo_init_84 : decode b_Mo_init 84 = .ok (.aload_n 0, 1) := by decide +kernel
theorem d_Mo_init_85 : decode b_Mo_init 85 = .ok (.bipush 25, 2) := by decide +kernel
theorem d_Mo_init_87 : decode b_Mo_init 87 = .ok (.newarray .int, 2) := by decide +kernel
theorem d_Mo_init_89 : decode b_Mo_init 89 = .ok (.putfield 41, 3) := by decide +kernel
theorem d_Mo_init_92 : decode b_Mo_init 92 = .ok (.aload_n 0, 1) := by decide +kernel
theorem d_Mo_init_93 : decode b_Mo_init 93 = .ok (.bipush 25, 2) := by decide +kernel
theorem d_Mo_init_95 : decode b_Mo_init 95 = .ok (.newarray .boolean, 2) := by decide +kernel
theorem d_Mo_init_97 : decode b_Mo_init 97 = .ok (.putfield 44, 3) := by decide +kernel
theorem d_Mo_init_100 : decode b_Mo_init 100 = .ok (.aload_n 0, 1) := by decide +kernel
theorem d_Mo_init_101 : decode b_Mo_init 101 = .ok (.iconst 4, 1) := by decide +kernel
theorem d_Mo_init_102 : decode b_Mo_init 102 = .ok (.newarray .int, 2) := by decide +kernel
theorem d_Mo_init_104 : decode b_Mo_init 104 = .ok (.putfield 47, 3) := by decide +kernel
theorem d_Mo_init_107 : decode b_Mo_init 107 = .ok (.aload_n 0, 1) := by decide +kernel
theorem d_Mo_init_108 : decode b_Mo_init 108 = .ok (.bipush 40, 2) := by decide +kernel
theorem d_Mo_init_110 : decode b_Mo_init 110 = .ok (.newarray .int, 2) := by decide +kernel
theorem d_Mo_init_112 : decode b_Mo_init 112 = .ok (.putfield 50, 3) := by decide +kernel
theorem d_Mo_init_115 : decode b_Mo_init 115 = .ok (.aload_n 0, 1) := by decide +kernel
theorem d_Mo_init_116 : decode b_Mo_init 116 = .ok (.bipush 40, 2) := by decide +kernel
theorem d_Mo_init_118 : decode b_Mo_init 118 = .ok (.newarray .int, 2) := by decide +kernel
theorem d_Mo_init_120 : decode b_Mo_init 120 = .ok (.putfield 53, 3) := by decide +kernel
theorem d_Mo_init_123 : decode b_Mo_init 123 = .ok (.aload_n 0, 1) := by decide +kernel
theorem d_Mo_init_124 : decode b_Mo_init 124 = .ok (.bipush 40, 2) := by decide +kernel
theorem d_Mo_init_126 : decode b_Mo_init 126 = .ok (.newarray .int, 2) := by decide +kernel
theorem d_Mo_init_128 : decode b_Mo_init 128 = .ok (.putfield 56, 3) := by decide +kernel
theorem d_Mo_init_131 : decode b_Mo_init 131 = .ok (.aload_n 0, 1) := by decide +kernel
theorem d_Mo_init_132 : decode b_Mo_init 132 = .ok (.sipush 160, 3) := by decide +kernel
theorem d_Mo_init_135 : decode b_Mo_init 135 = .ok (.newarray .int, 2) := by decide +kernel
theorem d_Mo_init_137 : decode b_Mo_init 137 = .ok (.putfield 59, 3) := by decide +kernel
theorem d_Mo_init_140 : decode b_Mo_init 140 = .ok (.aload_n 0, 1) := by decide +kernel
theorem d_Mo_init_141 : decode b_Mo_init 141 = .ok (.sipush 760, 3) := by decide +kernel
theorem d_Mo_init_144 : decode b_Mo_init 144 = .ok (.newarray .int, 2) := by decide +kernel
theorem d_Mo_init_146 : decode b_Mo_init 146 = .ok (.putfield 62, 3) := by decide +kernel
theorem d_Mo_init_149 : decode b_Mo_init 149 = .ok (.aload_n 0, 1) := by decide +kernel
theorem d_Mo_init_150 : decode b_Mo_init 150 = .ok (.sipush 760, 3) := by decide +kernel
theorem d_Mo_init_153 : decode b_Mo_init 153 = .ok (.newarray .int, 2) := by decide +kernel
theorem d_Mo_init_155 : decode b_Mo_init 155 = .ok (.putfield 65, 3) := by decide +kernel
theorem d_Mo_init_158 : decode b_Mo_init 158 = .ok (.aload_n 0, 1) := by decide +kernel
theorem d_Mo_init_159 : decode b_Mo_init 159 = .ok (.sipush 760, 3) := by decide +kernel
theorem d_Mo_init_162 : decode b_Mo_init 162 = .ok (.newarray .int, 2) := by decide +kernel
theorem d_Mo_init_164 : decode b_Mo_init 164 = .ok (.putfield 68, 3) := by decide +kernel
theorem d_Mo_init_167 : decode b_Mo_init 167 = .ok (.aload_n 0, 1) := by decide +kernel
theorem d_Mo_init_168 : decode b_Mo_init 168 = .ok (.sipush 756, 3) := by decide +kernel
theorem d_Mo_init_171 : decode b_Mo_init 171 = .ok (.newarray .int, 2) := by decide +kernel
theorem d_Mo_init_173 : decode b_Mo_init 173 = .ok (.putfield 71, 3) := by decide +kernel
theorem d_Mo_init_176 : decode b_Mo_init 176 = .ok (.aload_n 0, 1) := by decide +kernel
theorem d_Mo_init_177 : decode b_Mo_init 177 = .ok (.sipush 756, 3) := by decide +kernel
theorem d_Mo_init_180 : decode b_Mo_init 180 = .ok (.newarray .int, 2) := by decide +kernel
theorem d_Mo_init_182 : decode b_Mo_init 182 = .ok (.putfield 74, 3) := by decide +kernel
theorem d_Mo_init_185 : decode b_Mo_init 185 = .ok (.aload_n 0, 1) := by decide +kernel
theorem d_Mo_init_186 : decode b_Mo_init 186 = .ok (.sipush 756, 3) := by decide +kernel
theorem d_Mo_init_189 : decode b_Mo_init 189 = .ok (.newarray .int, 2) := by decide +kernel
theorem d_Mo_init_191 : decode b_Mo_init 191 = .ok (.putfield 77, 3) := by decide +kernel
theorem d_Mo_init_194 : decode b_Mo_init 194 = .ok (.aload_n 0, 1) := by decide +kernel
theorem d_Mo_init_195 : decode b_Mo_init 195 = .ok (.sipush 756, 3) := by decide +kernel
theorem d_Mo_init_198 : decode b_Mo_init 198 = .ok (.newarray .int, 2) := by decide +kernel
theorem d_Mo_init_200 : decode b_Mo_init 200 = .ok (.putfield 80, 3) := by decide +kernel
theorem d_Mo_init_203 : decode b_Mo_init 203 = .ok (.aload_n 0, 1) := by decide +kernel
theorem d_Mo_init_204 : decode b_Mo_init 204 = .ok (.sipush 756, 3) := by decide +kernel
theorem d_Mo_init_207 : decode b_Mo_init 207 = .ok (.newarray .int, 2) := by decide +kernel
theorem d_Mo_init_209 : decode b_Mo_init 209 = .ok (.putfield 83, 3) := by decide +kernel
theorem d_Mo_init_212 : decode b_Mo_init 212 = .ok (.aload_n 0, 1) := by decide +kernel
theorem d_Mo_init_213 : decode b_Mo_init 213 = .ok (.sipush 760, 3) := by decide +kernel
theorem d_Mo_init_216 : decode b_Mo_init 216 = .ok (.newarray .int, 2) := by decide +kernel
theorem d_Mo_init_218 : decode b_Mo_init 218 = .ok (.putfield 86, 3) := by decide +kernel
theorem d_Mo_init_221 : decode b_Mo_init 221 = .ok (.aload_n 0, 1) := by decide +kernel
theorem d_Mo_init_222 : decode b_Mo_init 222 = .ok (.iload_n 1, 1) := by decide +kernel
theorem d_Mo_init_223 : decode b_Mo_init 223 = .ok (.putfield 89, 3) := by decide +kernel
theorem d_Mo_init_226 : decode b_Mo_init 226 = .ok (.return_, 1) := by decide +kernel
theorem d_Mo_thrown_0 : decode b_Mo_thrown 0 = .ok (.aload_n 0, 1) := by decide +kernel
theorem d_Mo_thrown_1 : decode b_Mo_thrown 1 = .ok (.getfield 93, 3) := by decide +kernel
theorem d_Mo_thrown_4 : decode b_Mo_thrown 4 = .ok (.ireturn, 1) := by decide +kernel
theorem d_Mo_fails_0 : decode b_Mo_fails 0 = .ok (.aload_n 0, 1) := by decide +kernel
theorem d_Mo_fails_1 : decode b_Mo_fails 1 = .ok (.iload_n 1, 1) := by decide +kernel
theorem d_Mo_fails_2 : decode b_Mo_fails 2 = .ok (.putfield 93, 3) := by decide +kernel
theorem d_Mo_fails_5 : decode b_Mo_fails 5 = .ok (.iconst 0, 1) := by decide +kernel
theorem d_Mo_fails_6 : decode b_Mo_fails 6 = .ok (.ireturn, 1) := by decide +kernel
theorem d_Mo_in_0 : decode b_Mo_in 0 = .ok (.iload_n 0, 1) := by decide +kernel
theorem d_Mo_in_1 : decode b_Mo_in 1 = .ok (.iload_n 1, 1) := by decide +kernel
theorem d_Mo_in_2 : decode b_Mo_in 2 = .ok (.if_icmp .lt 12, 3) := by decide +kernel
theorem d_Mo_in_5 : decode b_Mo_in 5 = .ok (.iload_n 0, 1) := by decide +kernel
theorem d_Mo_in_6 : decode b_Mo_in 6 = .ok (.iload_n 2, 1) := by decide +kernel
theorem d_Mo_in_7 : decode b_Mo_in 7 = .ok (.if_icmp .gt 7, 3) := by decide +kernel
theorem d_Mo_in_10 : decode b_Mo_in 10 = .ok (.iconst 1, 1) := by decide +kernel
theorem d_Mo_in_11 : decode b_Mo_in 11 = .ok (.goto 4, 3) := by decide +kernel
theorem d_Mo_in_14 : decode b_Mo_in 14 = .ok (.iconst 0, 1) := by decide +kernel
theorem d_Mo_in_15 : decode b_Mo_in 15 = .ok (.ireturn, 1) := by decide +kernel
theorem d_Mo_recorded_0 : decode b_Mo_recorded 0 = .ok (.aload_n 0, 1) := by decide +kernel
theorem d_Mo_recorded_1 : decode b_Mo_recorded 1 = .ok (.getfield 96, 3) := by decide +kernel
theorem d_Mo_recorded_4 : decode b_Mo_recorded 4 = .ok (.ifCond .eq 22, 3) := by decide +kernel
theorem d_Mo_recorded_7 : decode b_Mo_recorded 7 = .ok (.aload_n 0, 1) := by decide +kernel
theorem d_Mo_recorded_8 : decode b_Mo_recorded 8 = .ok (.getfield 100, 3) := by decide +kernel
theorem d_Mo_recorded_11 : decode b_Mo_recorded 11 = .ok (.ifCond .ne 15, 3) := by decide +kernel
theorem d_Mo_recorded_14 : decode b_Mo_recorded 14 = .ok (.aload_n 0, 1) := by decide +kernel
theorem d_Mo_recorded_15 : decode b_Mo_recorded 15 = .ok (.iconst 0, 1) := by decide +kernel
theorem d_Mo_recorded_16 : decode b_Mo_recorded 16 = .ok (.putfield 96, 3) := by decide +kernel
theorem d_Mo_recorded_19 : decode b_Mo_recorded 19 = .ok (.aload_n 0, 1) := by decide +kernel
theorem d_Mo_recorded_20 : decode b_Mo_recorded 20 = .ok (.iconst 0, 1) := by decide +kernel
theorem d_Mo_recorded_21 : decode b_Mo_recorded 21 = .ok (.putfield 103, 3) := by decide +kernel
theorem d_Mo_recorded_24 : decode b_Mo_recorded 24 = .ok (.iconst 0, 1) := by decide +kernel
theorem d_Mo_recorded_25 : decode b_Mo_recorded 25 = .ok (.ireturn, 1) := by decide +kernel
theorem d_Mo_recorded_26 : decode b_Mo_recorded 26 = .ok (.aload_n 0, 1) := by decide +kernel
theorem d_Mo_recorded_27 : decode b_Mo_recorded 27 = .ok (.aload_n 0, 1) := by decide +kernel
theorem d_Mo_recorded_28 : decode b_Mo_recorded 28 = .ok (.getfield 96, 3) := by decide +kernel
theorem d_Mo_recorded_31 : decode b_Mo_recorded 31 = .ok (.ifCond .eq 12, 3) := by decide +kernel
theorem d_Mo_recorded_34 : decode b_Mo_recorded 34 = .ok (.aload_n 0, 1) := by decide +kernel
theorem d_Mo_recorded_35 : decode b_Mo_recorded 35 = .ok (.getfield 100, 3) := by decide +kernel
theorem d_Mo_recorded_38 : decode b_Mo_recorded 38 = .ok (.iconst 1, 1) := by decide +kernel
theorem d_Mo_recorded_39 : decode b_Mo_recorded 39 = .ok (.isub, 1) := by decide +kernel
theorem d_Mo_recorded_40 : decode b_Mo_recorded 40 = .ok (.goto 7, 3) := by decide +kernel
theorem d_Mo_recorded_43 : decode b_Mo_recorded 43 = .ok (.aload_n 0, 1) := by decide +kernel
theorem d_Mo_recorded_44 : decode b_Mo_recorded 44 = .ok (.getfield 100, 3) := by decide +kernel
theorem d_Mo_recorded_47 : decode b_Mo_recorded 47 = .ok (.putfield 100, 3) := by decide +kernel
theorem d_Mo_recorded_50 : decode b_Mo_recorded 50 = .ok (.iconst 1, 1) := by decide +kernel
theorem d_Mo_recorded_51 : decode b_Mo_recorded 51 = .ok (.ireturn, 1) := by decide +kernel
theorem d_Mo_fuse_0 : decode b_Mo_fuse 0 = .ok (.aload_n 0, 1) := by decide +kernel
theorem d_Mo_fuse_1 : decode b_Mo_fuse 1 = .ok (.iconst 0, 1) := by decide +kernel
theorem d_Mo_fuse_2 : decode b_Mo_fuse 2 = .ok (.putfield 93, 3) := by decide +kernel
theorem d_Mo_fuse_5 : decode b_Mo_fuse 5 = .ok (.iload_n 1, 1) := by decide +kernel
theorem d_Mo_fuse_6 : decode b_Mo_fuse 6 = .ok (.iconst 0, 1) := by decide +kernel
theorem d_Mo_fuse_7 : decode b_Mo_fuse 7 = .ok (.bipush 50, 2) := by decide +kernel
theorem d_Mo_fuse_9 : decode b_Mo_fuse 9 = .ok (.invokestatic 106, 3) := by decide +kernel
theorem d_Mo_fuse_12 : decode b_Mo_fuse 12 = .ok (.ifCond .ne 5, 3) := by decide +kernel
theorem d_Mo_fuse_15 : decode b_Mo_fuse 15 = .ok (.iconst 0, 1) := by decide +kernel
theorem d_Mo_fuse_16 : decode b_Mo_fuse 16 = .ok (.ireturn, 1) := by decide +kernel
theorem d_Mo_fuse_17 : decode b_Mo_fuse 17 = .ok (.aload_n 0, 1) := by decide +kernel
theorem d_Mo_fuse_18 : decode b_Mo_fuse 18 = .ok (.iconst 1, 1) := by decide +kernel
theorem d_Mo_fuse_19 : decode b_Mo_fuse 19 = .ok (.putfield 96, 3) := by decide +kernel
theorem d_Mo_fuse_22 : decode b_Mo_fuse 22 = .ok (.aload_n 0, 1) := by decide +kernel
theorem d_Mo_fuse_23 : decode b_Mo_fuse 23 = .ok (.iload_n 1, 1) := by decide +kernel
theorem d_Mo_fuse_24 : decode b_Mo_fuse 24 = .ok (.putfield 100, 3) := by decide +kernel
theorem d_Mo_fuse_27 : decode b_Mo_fuse 27 = .ok (.iconst 1, 1) := by decide +kernel
theorem d_Mo_fuse_28 : decode b_Mo_fuse 28 = .ok (.ireturn, 1) := by decide +kernel
theorem d_Mo_mix_0 : decode b_Mo_mix 0 = .ok (.iload_n 0, 1) := by decide +kernel
theorem d_Mo_mix_1 : decode b_Mo_mix 1 = .ok (.iload_n 1, 1) := by decide +kernel
theorem d_Mo_mix_2 : decode b_Mo_mix 2 = .ok (.ixor, 1) := by decide +kernel
theorem d_Mo_mix_3 : decode b_Mo_mix 3 = .ok (.ldc 110, 2) := by decide +kernel
theorem d_Mo_mix_5 : decode b_Mo_mix 5 = .ok (.imul, 1) := by decide +kernel
theorem d_Mo_mix_6 : decode b_Mo_mix 6 = .ok (.istore_n 2, 1) := by decide +kernel
theorem d_Mo_mix_7 : decode b_Mo_mix 7 = .ok (.iload_n 2, 1) := by decide +kernel
theorem d_Mo_mix_8 : decode b_Mo_mix 8 = .ok (.iload_n 2, 1) := by decide +kernel
theorem d_Mo_mix_9 : decode b_Mo_mix 9 = .ok (.bipush 15, 2) := by decide +kernel
theorem d_Mo_mix_11 : decode b_Mo_mix 11 = .ok (.iushr, 1) := by decide +kernel
theorem d_Mo_mix_12 : decode b_Mo_mix 12 = .ok (.ixor, 1) := by decide +kernel
theorem d_Mo_mix_13 : decode b_Mo_mix 13 = .ok (.ireturn, 1) := by decide +kernel
theorem d_Mo_seal_0 : decode b_Mo_seal 0 = .ok (.aload_n 0, 1) := by decide +kernel
theorem d_Mo_seal_1 : decode b_Mo_seal 1 = .ok (.iconst 0, 1) := by decide +kernel
theorem d_Mo_seal_2 : decode b_Mo_seal 2 = .ok (.putfield 93, 3) := by decide +kernel
theorem d_Mo_seal_5 : decode b_Mo_seal 5 = .ok (.iconst 0, 1) := by decide +kernel
theorem d_Mo_seal_6 : decode b_Mo_seal 6 = .ok (.iload_n 1, 1) := by decide +kernel
theorem d_Mo_seal_7 : decode b_Mo_seal 7 = .ok (.invokestatic 111, 3) := by decide +kernel
theorem d_Mo_seal_10 : decode b_Mo_seal 10 = .ok (.iload_n 2, 1) := by decide +kernel
theorem d_Mo_seal_11 : decode b_Mo_seal 11 = .ok (.invokestatic 111, 3) := by decide +kernel
theorem d_Mo_seal_14 : decode b_Mo_seal 14 = .ok (.istore 9, 2) := by decide +kernel
theorem d_Mo_seal_16 : decode b_Mo_seal 16 = .ok (.iload 9, 2) := by decide +kernel
theorem d_Mo_seal_18 : decode b_Mo_seal 18 = .ok (.iload_n 3, 1) := by decide +kernel
theorem d_Mo_seal_19 : decode b_Mo_seal 19 = .ok (.invokestatic 111, 3) := by decide +kernel
theorem d_Mo_seal_22 : decode b_Mo_seal 22 = .ok (.istore 9, 2) := by decide +kernel
theorem d_Mo_seal_24 : decode b_Mo_seal 24 = .ok (.iload 9, 2) := by decide +kernel
theorem d_Mo_seal_26 : decode b_Mo_seal 26 = .ok (.iload_n 2, 1) := by decide +kernel
theorem d_Mo_seal_27 : decode b_Mo_seal 27 = .ok (.iconst 1, 1) := by decide +kernel
theorem d_Mo_seal_28 : decode b_Mo_seal 28 = .ok (.if_icmp .ne 7, 3) := by decide +kernel
theorem d_Mo_seal_31 : decode b_Mo_seal 31 = .ok (.iconst 0, 1) := by decide +kernel
theorem d_Mo_seal_32 : decode b_Mo_seal 32 = .ok (.goto 5, 3) := by decide +kernel
theorem d_Mo_seal_35 : decode b_Mo_seal 35 = .ok (.iload 4, 2) := by decide +kernel
theorem d_Mo_seal_37 : decode b_Mo_seal 37 = .ok (.invokestatic 111, 3) := by decide +kernel
theorem d_Mo_seal_40 : decode b_Mo_seal 40 = .ok (.istore 9, 2) := by decide +kernel
theorem d_Mo_seal_42 : decode b_Mo_seal 42 = .ok (.iload 9, 2) := by decide +kernel
theorem d_Mo_seal_44 : decode b_Mo_seal 44 = .ok (.iload_n 2, 1) := by decide +kernel
theorem d_Mo_seal_45 : decode b_Mo_seal 45 = .ok (.iconst 1, 1) := by decide +kernel
theorem d_Mo_seal_46 : decode b_Mo_seal 46 = .ok (.if_icmp .eq 8, 3) := by decide +kernel
theorem d_Mo_seal_49 : decode b_Mo_seal 49 = .ok (.iload_n 2, 1) := by decide +kernel
theorem d_Mo_seal_50 : decode b_Mo_seal 50 = .ok (.iconst 3, 1) := by decide +kernel
theorem d_Mo_seal_51 : decode b_Mo_seal 51 = .ok (.if_icmp .ne 7, 3) := by decide +kernel
theorem d_Mo_seal_54 : decode b_Mo_seal 54 = .ok (.iconst 0, 1) := by decide +kernel
theorem d_Mo_seal_55 : decode b_Mo_seal 55 = .ok (.goto 5, 3) := by decide +kernel
theorem d_Mo_seal_58 : decode b_Mo_seal 58 = .ok (.iload 5, 2) := by decide +kernel
theorem d_Mo_seal_60 : decode b_Mo_seal 60 = .ok (.invokestatic 111, 3) := by decide +kernel
theorem d_Mo_seal_63 : decode b_Mo_seal 63 = .ok (.istore 9, 2) := by decide +kernel
theorem d_Mo_seal_65 : decode b_Mo_seal 65 = .ok (.iload 9, 2) := by decide +kernel
theorem d_Mo_seal_67 : decode b_Mo_seal 67 = .ok (.iload_n 2, 1) := by decide +kernel
theorem d_Mo_seal_68 : decode b_Mo_seal 68 = .ok (.ifCond .eq 13, 3) := by decide +kernel
theorem d_Mo_seal_71 : decode b_Mo_seal 71 = .ok (.iload_n 2, 1) := by decide +kernel
theorem d_Mo_seal_72 : decode b_Mo_seal 72 = .ok (.iconst 1, 1) := by decide +kernel
theorem d_Mo_seal_73 : decode b_Mo_seal 73 = .ok (.if_icmp .eq 8, 3) := by decide +kernel
theorem d_Mo_seal_76 : decode b_Mo_seal 76 = .ok (.iload_n 2, 1) := by decide +kernel
theorem d_Mo_seal_77 : decode b_Mo_seal 77 = .ok (.iconst 3, 1) := by decide +kernel
theorem d_Mo_seal_78 : decode b_Mo_seal 78 = .ok (.if_icmp .ne 7, 3) := by decide +kernel
theorem d_Mo_seal_81 : decode b_Mo_seal 81 = .ok (.iconst 0, 1) := by decide +kernel
theorem d_Mo_seal_82 : decode b_Mo_seal 82 = .ok (.goto 5, 3) := by decide +kernel
theorem d_Mo_seal_85 : decode b_Mo_seal 85 = .ok (.iload 6, 2) := by decide +kernel
theorem d_Mo_seal_87 : decode b_Mo_seal 87 = .ok (.invokestatic 111, 3) := by decide +kernel
theorem d_Mo_seal_90 : decode b_Mo_seal 90 = .ok (.istore 9, 2) := by decide +kernel
theorem d_Mo_seal_92 : decode b_Mo_seal 92 = .ok (.iload 9, 2) := by decide +kernel
theorem d_Mo_seal_94 : decode b_Mo_seal 94 = .ok (.iload 7, 2) := by decide +kernel
theorem d_Mo_seal_96 : decode b_Mo_seal 96 = .ok (.invokestatic 111, 3) := by decide +kernel
theorem d_Mo_seal_99 : decode b_Mo_seal 99 = .ok (.iload 8, 2) := by decide +kernel
theorem d_Mo_seal_101 : decode b_Mo_seal 101 = .ok (.invokestatic 111, 3) := by decide +kernel
theorem d_Mo_seal_104 : decode b_Mo_seal 104 = .ok (.istore 9, 2) := by decide +kernel
theorem d_Mo_seal_106 : decode b_Mo_seal 106 = .ok (.iload 9, 2) := by decide +kernel
theorem d_Mo_seal_108 : decode b_Mo_seal 108 = .ok (.aload_n 0, 1) := by decide +kernel
theorem d_Mo_seal_109 : decode b_Mo_seal 109 = .ok (.getfield 89, 3) := by decide +kernel
theorem d_Mo_seal_112 : decode b_Mo_seal 112 = .ok (.bipush 97, 2) := by decide +kernel
theorem d_Mo_seal_114 : decode b_Mo_seal 114 = .ok (.iload_n 1, 1) := by decide +kernel
theorem d_Mo_seal_115 : decode b_Mo_seal 115 = .ok (.imul, 1) := by decide +kernel
theorem d_Mo_seal_116 : decode b_Mo_seal 116 = .ok (.iadd, 1) := by decide +kernel
theorem d_Mo_seal_117 : decode b_Mo_seal 117 = .ok (.ixor, 1) := by decide +kernel
theorem d_Mo_seal_118 : decode b_Mo_seal 118 = .ok (.ldc 115, 2) := by decide +kernel
theorem d_Mo_seal_120 : decode b_Mo_seal 120 = .ok (.imul, 1) := by decide +kernel
theorem d_Mo_seal_121 : decode b_Mo_seal 121 = .ok (.ireturn, 1) := by decide +kernel
theorem d_Mo_set_0 : decode b_Mo_set 0 = .ok (.aload_n 0, 1) := by decide +kernel
theorem d_Mo_set_1 : decode b_Mo_set 1 = .ok (.iconst 0, 1) := by decide +kernel
theorem d_Mo_set_2 : decode b_Mo_set 2 = .ok (.putfield 93, 3) := by decide +kernel
theorem d_Mo_set_5 : decode b_Mo_set 5 = .ok (.aload_n 0, 1) := by decide +kernel
theorem d_Mo_set_6 : decode b_Mo_set 6 = .ok (.getfield 47, 3) := by decide +kernel
theorem d_Mo_set_9 : decode b_Mo_set 9 = .ok (.iconst 0, 1) := by decide +kernel
theorem d_Mo_set_10 : decode b_Mo_set 10 = .ok (.iload_n 1, 1) := by decide +kernel
theorem d_Mo_set_11 : decode b_Mo_set 11 = .ok (.iastore, 1) := by decide +kernel
theorem d_Mo_set_12 : decode b_Mo_set 12 = .ok (.aload_n 0, 1) := by decide +kernel
theorem d_Mo_set_13 : decode b_Mo_set 13 = .ok (.getfield 47, 3) := by decide +kernel
theorem d_Mo_set_16 : decode b_Mo_set 16 = .ok (.iconst 1, 1) := by decide +kernel
theorem d_Mo_set_17 : decode b_Mo_set 17 = .ok (.iload_n 2, 1) := by decide +kernel
theorem d_Mo_set_18 : decode b_Mo_set 18 = .ok (.iastore, 1) := by decide +kernel
theorem d_Mo_set_19 : decode b_Mo_set 19 = .ok (.aload_n 0, 1) := by decide +kernel
theorem d_Mo_set_20 : decode b_Mo_set 20 = .ok (.getfield 47, 3) := by decide +kernel
theorem d_Mo_set_23 : decode b_Mo_set 23 = .ok (.iconst 2, 1) := by decide +kernel
theorem d_Mo_set_24 : decode b_Mo_set 24 = .ok (.iload_n 3, 1) := by decide +kernel
theorem d_Mo_set_25 : decode b_Mo_set 25 = .ok (.iastore, 1) := by decide +kernel
theorem d_Mo_set_26 : decode b_Mo_set 26 = .ok (.aload_n 0, 1) := by decide +kernel
theorem d_Mo_set_27 : decode b_Mo_set 27 = .ok (.getfield 47, 3) := by decide +kernel
theorem d_Mo_set_30 : decode b_Mo_set 30 = .ok (.iconst 3, 1) := by decide +kernel
theorem d_Mo_set_31 : decode b_Mo_set 31 = .ok (.iload 4, 2) := by decide +kernel
theorem d_Mo_set_33 : decode b_Mo_set 33 = .ok (.iastore, 1) := by decide +kernel
theorem d_Mo_set_34 : decode b_Mo_set 34 = .ok (.return_, 1) := by decide +kernel
theorem d_Mo_isPerson_0 : decode b_Mo_isPerson 0 = .ok (.iload_n 0, 1) := by decide +kernel
theorem d_Mo_isPerson_1 : decode b_Mo_isPerson 1 = .ok (.iconst 0, 1) := by decide +kernel
theorem d_Mo_isPerson_2 : decode b_Mo_isPerson 2 = .ok (.iconst 5, 1) := by decide +kernel
theorem d_Mo_isPerson_3 : decode b_Mo_isPerson 3 = .ok (.invokestatic 106, 3) := by decide +kernel
theorem d_Mo_isPerson_6 : decode b_Mo_isPerson 6 = .ok (.ireturn, 1) := by decide +kernel
theorem d_Mo_isRight_0 : decode b_Mo_isRight 0 = .ok (.iload_n 0, 1) := by decide +kernel
theorem d_Mo_isRight_1 : decode b_Mo_isRight 1 = .ok (.iconst 0, 1) := by decide +kernel
theorem d_Mo_isRight_2 : decode b_Mo_isRight 2 = .ok (.iconst 3, 1) := by decide +kernel
theorem d_Mo_isRight_3 : decode b_Mo_isRight 3 = .ok (.invokestatic 106, 3) := by decide +kernel
theorem d_Mo_isRight_6 : decode b_Mo_isRight 6 = .ok (.ireturn, 1) := by decide +kernel
theorem d_Mo_isFit_0 : decode b_Mo_isFit 0 = .ok (.iload_n 1, 1) := by decide +kernel
theorem d_Mo_isFit_1 : decode b_Mo_isFit 1 = .ok (.ifCond .ne 47, 3) := by decide +kernel
theorem d_Mo_isFit_4 : decode b_Mo_isFit 4 = .ok (.aload_n 0, 1) := by decide +kernel
theorem d_Mo_isFit_5 : decode b_Mo_isFit 5 = .ok (.getfield 47, 3) := by decide +kernel
theorem d_Mo_isFit_8 : decode b_Mo_isFit 8 = .ok (.iconst 0, 1) := by decide +kernel
theorem d_Mo_isFit_9 : decode b_Mo_isFit 9 = .ok (.iaload, 1) := by decide +kernel
theorem d_Mo_isFit_10 : decode b_Mo_isFit 10 = .ok (.invokestatic 116, 3) := by decide +kernel
theorem d_Mo_isFit_13 : decode b_Mo_isFit 13 = .ok (.ifCond .eq 33, 3) := by decide +kernel
theorem d_Mo_isFit_16 : decode b_Mo_isFit 16 = .ok (.aload_n 0, 1) := by decide +kernel
theorem d_Mo_isFit_17 : decode b_Mo_isFit 17 = .ok (.getfield 47, 3) := by decide +kernel
theorem d_Mo_isFit_20 : decode b_Mo_isFit 20 = .ok (.iconst 1, 1) := by decide +kernel
theorem d_Mo_isFit_21 : decode b_Mo_isFit 21 = .ok (.iaload, 1) := by decide +kernel
theorem d_Mo_isFit_22 : decode b_Mo_isFit 22 = .ok (.invokestatic 120, 3) := by decide +kernel
theorem d_Mo_isFit_25 : decode b_Mo_isFit 25 = .ok (.ifCond .eq 21, 3) := by decide +kernel
theorem d_Mo_isFit_28 : decode b_Mo_isFit 28 = .ok (.aload_n 0, 1) := by decide +kernel
theorem d_Mo_isFit_29 : decode b_Mo_isFit 29 = .ok (.getfield 47, 3) := by decide +kernel
theorem d_Mo_isFit_32 : decode b_Mo_isFit 32 = .ok (.iconst 2, 1) := by decide +kernel
theorem d_Mo_isFit_33 : decode b_Mo_isFit 33 = .ok (.iaload, 1) := by decide +kernel
theorem d_Mo_isFit_34 : decode b_Mo_isFit 34 = .ok (.iconst 0, 1) := by decide +kernel
theorem d_Mo_isFit_35 : decode b_Mo_isFit 35 = .ok (.iconst 5, 1) := by decide +kernel
theorem d_Mo_isFit_36 : decode b_Mo_isFit 36 = .ok (.invokestatic 106, 3) := by decide +kernel
theorem d_Mo_isFit_39 : decode b_Mo_isFit 39 = .ok (.ifCond .eq 7, 3) := by decide +kernel
theorem d_Mo_isFit_42 : decode b_Mo_isFit 42 = .ok (.iconst 1, 1) := by decide +kernel
theorem d_Mo_isFit_43 : decode b_Mo_isFit 43 = .ok (.goto 4, 3) := by decide +kernel
theorem d_Mo_isFit_46 : decode b_Mo_isFit 46 = .ok (.iconst 0, 1) := by decide +kernel
theorem d_Mo_isFit_47 : decode b_Mo_isFit 47 = .ok (.ireturn, 1) := by decide +kernel
theorem d_Mo_isFit_48 : decode b_Mo_isFit 48 = .ok (.iload_n 1, 1) := by decide +kernel
theorem d_Mo_isFit_49 : decode b_Mo_isFit 49 = .ok (.iconst 1, 1) := by decide +kernel
theorem d_Mo_isFit_50 : decode b_Mo_isFit 50 = .ok (.if_icmp .ne 13, 3) := by decide +kernel
theorem d_Mo_isFit_53 : decode b_Mo_isFit 53 = .ok (.aload_n 0, 1) := by decide +kernel
theorem d_Mo_isFit_54 : decode b_Mo_isFit 54 = .ok (.getfield 47, 3) := by decide +kernel
theorem d_Mo_isFit_57 : decode b_Mo_isFit 57 = .ok (.iconst 0, 1) := by decide +kernel
theorem d_Mo_isFit_58 : decode b_Mo_isFit 58 = .ok (.iaload, 1) := by decide +kernel
theorem d_Mo_isFit_59 : decode b_Mo_isFit 59 = .ok (.invokestatic 116, 3) := by decide +kernel
theorem d_Mo_isFit_62 : decode b_Mo_isFit 62 = .ok (.ireturn, 1) := by decide +kernel
theorem d_Mo_isFit_63 : decode b_Mo_isFit 63 = .ok (.iload_n 1, 1) := by decide +kernel
theorem d_Mo_isFit_64 : decode b_Mo_isFit 64 = .ok (.iconst 3, 1) := by decide +kernel
theorem d_Mo_isFit_65 : decode b_Mo_isFit 65 = .ok (.if_icmp .ne 33, 3) := by decide +kernel
theorem d_Mo_isFit_68 : decode b_Mo_isFit 68 = .ok (.aload_n 0, 1) := by decide +kernel
theorem d_Mo_isFit_69 : decode b_Mo_isFit 69 = .ok (.getfield 47, 3) := by decide +kernel
theorem d_Mo_isFit_72 : decode b_Mo_isFit 72 = .ok (.iconst 0, 1) := by decide +kernel
theorem d_Mo_isFit_73 : decode b_Mo_isFit 73 = .ok (.iaload, 1) := by decide +kernel
theorem d_Mo_isFit_74 : decode b_Mo_isFit 74 = .ok (.invokestatic 120, 3) := by decide +kernel
theorem d_Mo_isFit_77 : decode b_Mo_isFit 77 = .ok (.ifCond .eq 19, 3) := by decide +kernel
theorem d_Mo_isFit_80 : decode b_Mo_isFit 80 = .ok (.aload_n 0, 1) := by decide +kernel
theorem d_Mo_isFit_81 : decode b_Mo_isFit 81 = .ok (.getfield 47, 3) := by decide +kernel
theorem d_Mo_isFit_84 : decode b_Mo_isFit 84 = .ok (.iconst 1, 1) := by decide +kernel
theorem d_Mo_isFit_85 : decode b_Mo_isFit 85 = .ok (.iaload, 1) := by decide +kernel
theorem d_Mo_isFit_86 : decode b_Mo_isFit 86 = .ok (.invokestatic 120, 3) := by decide +kernel
theorem d_Mo_isFit_89 : decode b_Mo_isFit 89 = .ok (.ifCond .eq 7, 3) := by decide +kernel
theorem d_Mo_isFit_92 : decode b_Mo_isFit 92 = .ok (.iconst 1, 1) := by decide +kernel
theorem d_Mo_isFit_93 : decode b_Mo_isFit 93 = .ok (.goto 4, 3) := by decide +kernel
theorem d_Mo_isFit_96 : decode b_Mo_isFit 96 = .ok (.iconst 0, 1) := by decide +kernel
theorem d_Mo_isFit_97 : decode b_Mo_isFit 97 = .ok (.ireturn, 1) := by decide +kernel
theorem d_Mo_isFit_98 : decode b_Mo_isFit 98 = .ok (.iload_n 1, 1) := by decide +kernel
theorem d_Mo_isFit_99 : decode b_Mo_isFit 99 = .ok (.iconst 2, 1) := by decide +kernel
theorem d_Mo_isFit_100 : decode b_Mo_isFit 100 = .ok (.if_icmp .ne 59, 3) := by decide +kernel
theorem d_Mo_isFit_103 : decode b_Mo_isFit 103 = .ok (.aload_n 0, 1) := by decide +kernel
theorem d_Mo_isFit_104 : decode b_Mo_isFit 104 = .ok (.getfield 47, 3) := by decide +kernel
theorem d_Mo_isFit_107 : decode b_Mo_isFit 107 = .ok (.iconst 0, 1) := by decide +kernel
theorem d_Mo_isFit_108 : decode b_Mo_isFit 108 = .ok (.iaload, 1) := by decide +kernel
theorem d_Mo_isFit_109 : decode b_Mo_isFit 109 = .ok (.invokestatic 116, 3) := by decide +kernel
theorem d_Mo_isFit_112 : decode b_Mo_isFit 112 = .ok (.ifCond .eq 47, 3) := by decide +kernel
theorem d_Mo_isFit_115 : decode b_Mo_isFit 115 = .ok (.aload_n 0, 1) := by decide +kernel
theorem d_Mo_isFit_116 : decode b_Mo_isFit 116 = .ok (.getfield 47, 3) := by decide +kernel
theorem d_Mo_isFit_119 : decode b_Mo_isFit 119 = .ok (.iconst 1, 1) := by decide +kernel
theorem d_Mo_isFit_120 : decode b_Mo_isFit 120 = .ok (.iaload, 1) := by decide +kernel
theorem d_Mo_isFit_121 : decode b_Mo_isFit 121 = .ok (.invokestatic 120, 3) := by decide +kernel
theorem d_Mo_isFit_124 : decode b_Mo_isFit 124 = .ok (.ifCond .eq 35, 3) := by decide +kernel
theorem d_Mo_isFit_127 : decode b_Mo_isFit 127 = .ok (.aload_n 0, 1) := by decide +kernel
theorem d_Mo_isFit_128 : decode b_Mo_isFit 128 = .ok (.getfield 47, 3) := by decide +kernel
theorem d_Mo_isFit_131 : decode b_Mo_isFit 131 = .ok (.iconst 2, 1) := by decide +kernel
theorem d_Mo_isFit_132 : decode b_Mo_isFit 132 = .ok (.iaload, 1) := by decide +kernel
theorem d_Mo_isFit_133 : decode b_Mo_isFit 133 = .ok (.iconst 0, 1) := by decide +kernel
theorem d_Mo_isFit_134 : decode b_Mo_isFit 134 = .ok (.iconst 5, 1) := by decide +kernel
theorem d_Mo_isFit_135 : decode b_Mo_isFit 135 = .ok (.invokestatic 106, 3) := by decide +kernel
theorem d_Mo_isFit_138 : decode b_Mo_isFit 138 = .ok (.ifCond .eq 21, 3) := by decide +kernel
theorem d_Mo_isFit_141 : decode b_Mo_isFit 141 = .ok (.aload_n 0, 1) := by decide +kernel
theorem d_Mo_isFit_142 : decode b_Mo_isFit 142 = .ok (.getfield 47, 3) := by decide +kernel
theorem d_Mo_isFit_145 : decode b_Mo_isFit 145 = .ok (.iconst 3, 1) := by decide +kernel
theorem d_Mo_isFit_146 : decode b_Mo_isFit 146 = .ok (.iaload, 1) := by decide +kernel
theorem d_Mo_isFit_147 : decode b_Mo_isFit 147 = .ok (.iconst 0, 1) := by decide +kernel
theorem d_Mo_isFit_148 : decode b_Mo_isFit 148 = .ok (.iconst 3, 1) := by decide +kernel
theorem d_Mo_isFit_149 : decode b_Mo_isFit 149 = .ok (.invokestatic 106, 3) := by decide +kernel
theorem d_Mo_isFit_152 : decode b_Mo_isFit 152 = .ok (.ifCond .eq 7, 3) := by decide +kernel
theorem d_Mo_isFit_155 : decode b_Mo_isFit 155 = .ok (.iconst 1, 1) := by decide +kernel
theorem d_Mo_isFit_156 : decode b_Mo_isFit 156 = .ok (.goto 4, 3) := by decide +kernel
theorem d_Mo_isFit_159 : decode b_Mo_isFit 159 = .ok (.iconst 0, 1) := by decide +kernel
theorem d_Mo_isFit_160 : decode b_Mo_isFit 160 = .ok (.ireturn, 1) := by decide +kernel
theorem d_Mo_submit_0 : decode b_Mo_submit 0 = .ok (.aload_n 0, 1) := by decide +kernel
theorem d_Mo_submit_1 : decode b_Mo_submit 1 = .ok (.iconst 0, 1) := by decide +kernel
theorem d_Mo_submit_2 : decode b_Mo_submit 2 = .ok (.putfield 93, 3) := by decide +kernel
theorem d_Mo_submit_5 : decode b_Mo_submit 5 = .ok (.iload_n 1, 1) := by decide +kernel
theorem d_Mo_submit_6 : decode b_Mo_submit 6 = .ok (.invokestatic 116, 3) := by decide +kernel
theorem d_Mo_submit_9 : decode b_Mo_submit 9 = .ok (.ifCond .eq 11, 3) := by decide +kernel
theorem d_Mo_submit_12 : decode b_Mo_submit 12 = .ok (.aload_n 0, 1) := by decide +kernel
theorem d_Mo_submit_13 : decode b_Mo_submit 13 = .ok (.iload_n 2, 1) := by decide +kernel
theorem d_Mo_submit_14 : decode b_Mo_submit 14 = .ok (.invokevirtual 123, 3) := by decide +kernel
theorem d_Mo_submit_17 : decode b_Mo_submit 17 = .ok (.ifCond .ne 9, 3) := by decide +kernel
theorem d_Mo_submit_20 : decode b_Mo_submit 20 = .ok (.aload_n 0, 1) := by decide +kernel
theorem d_Mo_submit_21 : decode b_Mo_submit 21 = .ok (.iconst 1, 1) := by decide +kernel
theorem d_Mo_submit_22 : decode b_Mo_submit 22 = .ok (.invokevirtual 126, 3) := by decide +kernel
theorem d_Mo_submit_25 : decode b_Mo_submit 25 = .ok (.ireturn, 1) := by decide +kernel
theorem d_Mo_submit_26 : decode b_Mo_submit 26 = .ok (.aload_n 0, 1) := by decide +kernel
theorem d_Mo_submit_27 : decode b_Mo_submit 27 = .ok (.iload_n 1, 1) := by decide +kernel
theorem d_Mo_submit_28 : decode b_Mo_submit 28 = .ok (.iload_n 2, 1) := by decide +kernel
theorem d_Mo_submit_29 : decode b_Mo_submit 29 = .ok (.aload_n 0, 1) := by decide +kernel
theorem d_Mo_submit_30 : decode b_Mo_submit 30 = .ok (.getfield 47, 3) := by decide +kernel
theorem d_Mo_submit_33 : decode b_Mo_submit 33 = .ok (.iconst 0, 1) := by decide +kernel
theorem d_Mo_submit_34 : decode b_Mo_submit 34 = .ok (.iaload, 1) := by decide +kernel
theorem d_Mo_submit_35 : decode b_Mo_submit 35 = .ok (.aload_n 0, 1) := by decide +kernel
theorem d_Mo_submit_36 : decode b_Mo_submit 36 = .ok (.getfield 47, 3) := by decide +kernel
theorem d_Mo_submit_39 : decode b_Mo_submit 39 = .ok (.iconst 1, 1) := by decide +kernel
theorem d_Mo_submit_40 : decode b_Mo_submit 40 = .ok (.iaload, 1) := by decide +kernel
theorem d_Mo_submit_41 : decode b_Mo_submit 41 = .ok (.aload_n 0, 1) := by decide +kernel
theorem d_Mo_submit_42 : decode b_Mo_submit 42 = .ok (.getfield 47, 3) := by decide +kernel
theorem d_Mo_submit_45 : decode b_Mo_submit 45 = .ok (.iconst 2, 1) := by decide +kernel
theorem d_Mo_submit_46 : decode b_Mo_submit 46 = .ok (.iaload, 1) := by decide +kernel
theorem d_Mo_submit_47 : decode b_Mo_submit 47 = .ok (.aload_n 0, 1) := by decide +kernel
theorem d_Mo_submit_48 : decode b_Mo_submit 48 = .ok (.getfield 47, 3) := by decide +kernel
theorem d_Mo_submit_51 : decode b_Mo_submit 51 = .ok (.iconst 3, 1) := by decide +kernel
theorem d_Mo_submit_52 : decode b_Mo_submit 52 = .ok (.iaload, 1) := by decide +kernel
theorem d_Mo_submit_53 : decode b_Mo_submit 53 = .ok (.iload_n 3, 1) := by decide +kernel
theorem d_Mo_submit_54 : decode b_Mo_submit 54 = .ok (.iload 4, 2) := by decide +kernel
theorem d_Mo_submit_56 : decode b_Mo_submit 56 = .ok (.invokevirtual 130, 3) := by decide +kernel
theorem d_Mo_submit_59 : decode b_Mo_submit 59 = .ok (.iload 5, 2) := by decide +kernel
theorem d_Mo_submit_61 : decode b_Mo_submit 61 = .ok (.if_icmp .eq 9, 3) := by decide +kernel
theorem d_Mo_submit_64 : decode b_Mo_submit 64 = .ok (.aload_n 0, 1) := by decide +kernel
theorem d_Mo_submit_65 : decode b_Mo_submit 65 = .ok (.iconst 2, 1) := by decide +kernel
theorem d_Mo_submit_66 : decode b_Mo_submit 66 = .ok (.invokevirtual 126, 3) := by decide +kernel
theorem d_Mo_submit_69 : decode b_Mo_submit 69 = .ok (.ireturn, 1) := by decide +kernel
theorem d_Mo_submit_70 : decode b_Mo_submit 70 = .ok (.aload_n 0, 1) := by decide +kernel
theorem d_Mo_submit_71 : decode b_Mo_submit 71 = .ok (.getfield 134, 3) := by decide +kernel
theorem d_Mo_submit_74 : decode b_Mo_submit 74 = .ok (.bipush 24, 2) := by decide +kernel
theorem d_Mo_submit_76 : decode b_Mo_submit 76 = .ok (.if_icmp .eq 10, 3) := by decide +kernel
theorem d_Mo_submit_79 : decode b_Mo_submit 79 = .ok (.aload_n 0, 1) := by decide +kernel
theorem d_Mo_submit_80 : decode b_Mo_submit 80 = .ok (.invokevirtual 137, 3) := by decide +kernel
theorem d_Mo_submit_83 : decode b_Mo_submit 83 = .ok (.ifCond .ne 9, 3) := by decide +kernel
theorem d_Mo_submit_86 : decode b_Mo_submit 86 = .ok (.aload_n 0, 1) := by decide +kernel
theorem d_Mo_submit_87 : decode b_Mo_submit 87 = .ok (.iconst 3, 1) := by decide +kernel
theorem d_Mo_submit_88 : decode b_Mo_submit 88 = .ok (.invokevirtual 126, 3) := by decide +kernel
theorem d_Mo_submit_91 : decode b_Mo_submit 91 = .ok (.ireturn, 1) := by decide +kernel
theorem d_Mo_submit_92 : decode b_Mo_submit 92 = .ok (.aload_n 0, 1) := by decide +kernel
theorem d_Mo_submit_93 : decode b_Mo_submit 93 = .ok (.dup, 1) := by decide +kernel
theorem d_Mo_submit_94 : decode b_Mo_submit 94 = .ok (.getfield 134, 3) := by decide +kernel
theorem d_Mo_submit_97 : decode b_Mo_submit 97 = .ok (.iconst 1, 1) := by decide +kernel
theorem d_Mo_submit_98 : decode b_Mo_submit 98 = .ok (.iadd, 1) := by decide +kernel
theorem d_Mo_submit_99 : decode b_Mo_submit 99 = .ok (.putfield 134, 3) := by decide +kernel
theorem d_Mo_submit_102 : decode b_Mo_submit 102 = .ok (.aload_n 0, 1) := by decide +kernel
theorem d_Mo_submit_103 : decode b_Mo_submit 103 = .ok (.getfield 134, 3) := by decide +kernel
theorem d_Mo_submit_106 : decode b_Mo_submit 106 = .ok (.istore 6, 2) := by decide +kernel
theorem d_Mo_submit_108 : decode b_Mo_submit 108 = .ok (.aload_n 0, 1) := by decide +kernel
theorem d_Mo_submit_109 : decode b_Mo_submit 109 = .ok (.getfield 20, 3) := by decide +kernel
theorem d_Mo_submit_112 : decode b_Mo_submit 112 = .ok (.iload 6, 2) := by decide +kernel
theorem d_Mo_submit_114 : decode b_Mo_submit 114 = .ok (.iload_n 1, 1) := by decide +kernel
theorem d_Mo_submit_115 : decode b_Mo_submit 115 = .ok (.iastore, 1) := by decide +kernel
theorem d_Mo_submit_116 : decode b_Mo_submit 116 = .ok (.aload_n 0, 1) := by decide +kernel
theorem d_Mo_submit_117 : decode b_Mo_submit 117 = .ok (.getfield 23, 3) := by decide +kernel
theorem d_Mo_submit_120 : decode b_Mo_submit 120 = .ok (.iload 6, 2) := by decide +kernel
theorem d_Mo_submit_122 : decode b_Mo_submit 122 = .ok (.iload_n 2, 1) := by decide +kernel
theorem d_Mo_submit_123 : decode b_Mo_submit 123 = .ok (.iastore, 1) := by decide +kernel
theorem d_Mo_submit_124 : decode b_Mo_submit 124 = .ok (.aload_n 0, 1) := by decide +kernel
theorem d_Mo_submit_125 : decode b_Mo_submit 125 = .ok (.getfield 26, 3) := by decide +kernel
theorem d_Mo_submit_128 : decode b_Mo_submit 128 = .ok (.iload 6, 2) := by decide +kernel
theorem d_Mo_submit_130 : decode b_Mo_submit 130 = .ok (.aload_n 0, 1) := by decide +kernel
theorem d_Mo_submit_131 : decode b_Mo_submit 131 = .ok (.getfield 47, 3) := by decide +kernel
theorem d_Mo_submit_134 : decode b_Mo_submit 134 = .ok (.iconst 0, 1) := by decide +kernel
theorem d_Mo_submit_135 : decode b_Mo_submit 135 = .ok (.iaload, 1) := by decide +kernel
theorem d_Mo_submit_136 : decode b_Mo_submit 136 = .ok (.iastore, 1) := by decide +kernel
theorem d_Mo_submit_137 : decode b_Mo_submit 137 = .ok (.aload_n 0, 1) := by decide +kernel
theorem d_Mo_submit_138 : decode b_Mo_submit 138 = .ok (.getfield 29, 3) := by decide +kernel
theorem d_Mo_submit_141 : decode b_Mo_submit 141 = .ok (.iload 6, 2) := by decide +kernel
theorem d_Mo_submit_143 : decode b_Mo_submit 143 = .ok (.aload_n 0, 1) := by decide +kernel
theorem d_Mo_submit_144 : decode b_Mo_submit 144 = .ok (.getfield 47, 3) := by decide +kernel
theorem d_Mo_submit_147 : decode b_Mo_submit 147 = .ok (.iconst 1, 1) := by decide +kernel
theorem d_Mo_submit_148 : decode b_Mo_submit 148 = .ok (.iaload, 1) := by decide +kernel
theorem d_Mo_submit_149 : decode b_Mo_submit 149 = .ok (.iastore, 1) := by decide +kernel
theorem d_Mo_submit_150 : decode b_Mo_submit 150 = .ok (.aload_n 0, 1) := by decide +kernel
theorem d_Mo_submit_151 : decode b_Mo_submit 151 = .ok (.getfield 32, 3) := by decide +kernel
theorem d_Mo_submit_154 : decode b_Mo_submit 154 = .ok (.iload 6, 2) := by decide +kernel
theorem d_Mo_submit_156 : decode b_Mo_submit 156 = .ok (.aload_n 0, 1) := by decide +kernel
theorem d_Mo_submit_157 : decode b_Mo_submit 157 = .ok (.getfield 47, 3) := by decide +kernel
theorem d_Mo_submit_160 : decode b_Mo_submit 160 = .ok (.iconst 2, 1) := by decide +kernel
theorem d_Mo_submit_161 : decode b_Mo_submit 161 = .ok (.iaload, 1) := by decide +kernel
theorem d_Mo_submit_162 : decode b_Mo_submit 162 = .ok (.iastore, 1) := by decide +kernel
theorem d_Mo_submit_163 : decode b_Mo_submit 163 = .ok (.aload_n 0, 1) := by decide +kernel
theorem d_Mo_submit_164 : decode b_Mo_submit 164 = .ok (.getfield 35, 3) := by decide +kernel
theorem d_Mo_submit_167 : decode b_Mo_submit 167 = .ok (.iload 6, 2) := by decide +kernel
theorem d_Mo_submit_169 : decode b_Mo_submit 169 = .ok (.aload_n 0, 1) := by decide +kernel
theorem d_Mo_submit_170 : decode b_Mo_submit 170 = .ok (.getfield 47, 3) := by decide +kernel
theorem d_Mo_submit_173 : decode b_Mo_submit 173 = .ok (.iconst 3, 1) := by decide +kernel
theorem d_Mo_submit_174 : decode b_Mo_submit 174 = .ok (.iaload, 1) := by decide +kernel
theorem d_Mo_submit_175 : decode b_Mo_submit 175 = .ok (.iastore, 1) := by decide +kernel
theorem d_Mo_submit_176 : decode b_Mo_submit 176 = .ok (.aload_n 0, 1) := by decide +kernel
theorem d_Mo_submit_177 : decode b_Mo_submit 177 = .ok (.getfield 38, 3) := by decide +kernel
theorem d_Mo_submit_180 : decode b_Mo_submit 180 = .ok (.iload 6, 2) := by decide +kernel
theorem d_Mo_submit_182 : decode b_Mo_submit 182 = .ok (.iload_n 3, 1) := by decide +kernel
theorem d_Mo_submit_183 : decode b_Mo_submit 183 = .ok (.iastore, 1) := by decide +kernel
theorem d_Mo_submit_184 : decode b_Mo_submit 184 = .ok (.aload_n 0, 1) := by decide +kernel
theorem d_Mo_submit_185 : decode b_Mo_submit 185 = .ok (.getfield 41, 3) := by decide +kernel
theorem d_Mo_submit_188 : decode b_Mo_submit 188 = .ok (.iload 6, 2) := by decide +kernel
theorem d_Mo_submit_190 : decode b_Mo_submit 190 = .ok (.iload 4, 2) := by decide +kernel
theorem d_Mo_submit_192 : decode b_Mo_submit 192 = .ok (.iastore, 1) := by decide +kernel
theorem d_Mo_submit_193 : decode b_Mo_submit 193 = .ok (.iload 6, 2) := by decide +kernel
theorem d_Mo_submit_195 : decode b_Mo_submit 195 = .ok (.ireturn, 1) := by decide +kernel
theorem d_Mo_revoke_0 : decode b_Mo_revoke 0 = .ok (.aload_n 0, 1) := by decide +kernel
theorem d_Mo_revoke_1 : decode b_Mo_revoke 1 = .ok (.iconst 0, 1) := by decide +kernel
theorem d_Mo_revoke_2 : decode b_Mo_revoke 2 = .ok (.putfield 93, 3) := by decide +kernel
theorem d_Mo_revoke_5 : decode b_Mo_revoke 5 = .ok (.iload_n 2, 1) := by decide +kernel
theorem d_Mo_revoke_6 : decode b_Mo_revoke 6 = .ok (.iconst 1, 1) := by decide +kernel
theorem d_Mo_revoke_7 : decode b_Mo_revoke 7 = .ok (.aload_n 0, 1) := by decide +kernel
theorem d_Mo_revoke_8 : decode b_Mo_revoke 8 = .ok (.getfield 134, 3) := by decide +kernel
theorem d_Mo_revoke_11 : decode b_Mo_revoke 11 = .ok (.invokestatic 106, 3) := by decide +kernel
theorem d_Mo_revoke_14 : decode b_Mo_revoke 14 = .ok (.ifCond .ne 11, 3) := by decide +kernel
theorem d_Mo_revoke_17 : decode b_Mo_revoke 17 = .ok (.aload_n 0, 1) := by decide +kernel
theorem d_Mo_revoke_18 : decode b_Mo_revoke 18 = .ok (.iconst 1, 1) := by decide +kernel
theorem d_Mo_revoke_19 : decode b_Mo_revoke 19 = .ok (.putfield 93, 3) := by decide +kernel
theorem d_Mo_revoke_22 : decode b_Mo_revoke 22 = .ok (.goto 54, 3) := by decide +kernel
theorem d_Mo_revoke_25 : decode b_Mo_revoke 25 = .ok (.aload_n 0, 1) := by decide +kernel
theorem d_Mo_revoke_26 : decode b_Mo_revoke 26 = .ok (.getfield 20, 3) := by decide +kernel
theorem d_Mo_revoke_29 : decode b_Mo_revoke 29 = .ok (.iload_n 2, 1) := by decide +kernel
theorem d_Mo_revoke_30 : decode b_Mo_revoke 30 = .ok (.iaload, 1) := by decide +kernel
theorem d_Mo_revoke_31 : decode b_Mo_revoke 31 = .ok (.iload_n 1, 1) := by decide +kernel
theorem d_Mo_revoke_32 : decode b_Mo_revoke 32 = .ok (.if_icmp .eq 11, 3) := by decide +kernel
theorem d_Mo_revoke_35 : decode b_Mo_revoke 35 = .ok (.aload_n 0, 1) := by decide +kernel
theorem d_Mo_revoke_36 : decode b_Mo_revoke 36 = .ok (.iconst 2, 1) := by decide +kernel
theorem d_Mo_revoke_37 : decode b_Mo_revoke 37 = .ok (.putfield 93, 3) := by decide +kernel
theorem d_Mo_revoke_40 : decode b_Mo_revoke 40 = .ok (.goto 36, 3) := by decide +kernel
theorem d_Mo_revoke_43 : decode b_Mo_revoke 43 = .ok (.aload_n 0, 1) := by decide +kernel
theorem d_Mo_revoke_44 : decode b_Mo_revoke 44 = .ok (.getfield 44, 3) := by decide +kernel
theorem d_Mo_revoke_47 : decode b_Mo_revoke 47 = .ok (.iload_n 2, 1) := by decide +kernel
theorem d_Mo_revoke_48 : decode b_Mo_revoke 48 = .ok (.baload, 1) := by decide +kernel
theorem d_Mo_revoke_49 : decode b_Mo_revoke 49 = .ok (.ifCond .eq 5, 3) := by decide +kernel
theorem d_Mo_revoke_52 : decode b_Mo_revoke 52 = .ok (.iconst 0, 1) := by decide +kernel
theorem d_Mo_revoke_53 : decode b_Mo_revoke 53 = .ok (.ireturn, 1) := by decide +kernel
theorem d_Mo_revoke_54 : decode b_Mo_revoke 54 = .ok (.aload_n 0, 1) := by decide +kernel
theorem d_Mo_revoke_55 : decode b_Mo_revoke 55 = .ok (.invokevirtual 137, 3) := by decide +kernel
theorem d_Mo_revoke_58 : decode b_Mo_revoke 58 = .ok (.ifCond .ne 11, 3) := by decide +kernel
theorem d_Mo_revoke_61 : decode b_Mo_revoke 61 = .ok (.aload_n 0, 1) := by decide +kernel
theorem d_Mo_revoke_62 : decode b_Mo_revoke 62 = .ok (.iconst 3, 1) := by decide +kernel
theorem d_Mo_revoke_63 : decode b_Mo_revoke 63 = .ok (.putfield 93, 3) := by decide +kernel
theorem d_Mo_revoke_66 : decode b_Mo_revoke 66 = .ok (.goto 10, 3) := by decide +kernel
theorem d_Mo_revoke_69 : decode b_Mo_revoke 69 = .ok (.aload_n 0, 1) := by decide +kernel
theorem d_Mo_revoke_70 : decode b_Mo_revoke 70 = .ok (.getfield 44, 3) := by decide +kernel
theorem d_Mo_revoke_73 : decode b_Mo_revoke 73 = .ok (.iload_n 2, 1) := by decide +kernel
theorem d_Mo_revoke_74 : decode b_Mo_revoke 74 = .ok (.iconst 1, 1) := by decide +kernel
theorem d_Mo_revoke_75 : decode b_Mo_revoke 75 = .ok (.bastore, 1) := by decide +kernel
theorem d_Mo_revoke_76 : decode b_Mo_revoke 76 = .ok (.aload_n 0, 1) := by decide +kernel
theorem d_Mo_revoke_77 : decode b_Mo_revoke 77 = .ok (.getfield 93, 3) := by decide +kernel
theorem d_Mo_revoke_80 : decode b_Mo_revoke 80 = .ok (.ifCond .ne 7, 3) := by decide +kernel
theorem d_Mo_revoke_83 : decode b_Mo_revoke 83 = .ok (.iconst 1, 1) := by decide +kernel
theorem d_Mo_revoke_84 : decode b_Mo_revoke 84 = .ok (.goto 4, 3) := by decide +kernel
theorem d_Mo_revoke_87 : decode b_Mo_revoke 87 = .ok (.iconst 0, 1) := by decide +kernel
theorem d_Mo_revoke_88 : decode b_Mo_revoke 88 = .ok (.ireturn, 1) := by decide +kernel
theorem d_Mo_holds_0 : decode b_Mo_holds 0 = .ok (.iload_n 1, 1) := by decide +kernel
theorem d_Mo_holds_1 : decode b_Mo_holds 1 = .ok (.iconst 1, 1) := by decide +kernel
theorem d_Mo_holds_2 : decode b_Mo_holds 2 = .ok (.aload_n 0, 1) := by decide +kernel
theorem d_Mo_holds_3 : decode b_Mo_holds 3 = .ok (.getfield 134, 3) := by decide +kernel
theorem d_Mo_holds_6 : decode b_Mo_holds 6 = .ok (.invokestatic 106, 3) := by decide +kernel
theorem d_Mo_holds_9 : decode b_Mo_holds 9 = .ok (.ifCond .eq 42, 3) := by decide +kernel
theorem d_Mo_holds_12 : decode b_Mo_holds 12 = .ok (.aload_n 0, 1) := by decide +kernel
theorem d_Mo_holds_13 : decode b_Mo_holds 13 = .ok (.getfield 44, 3) := by decide +kernel
theorem d_Mo_holds_16 : decode b_Mo_holds 16 = .ok (.iload_n 1, 1) := by decide +kernel
theorem d_Mo_holds_17 : decode b_Mo_holds 17 = .ok (.baload, 1) := by decide +kernel
theorem d_Mo_holds_18 : decode b_Mo_holds 18 = .ok (.ifCond .ne 33, 3) := by decide +kernel
theorem d_Mo_holds_21 : decode b_Mo_holds 21 = .ok (.aload_n 0, 1) := by decide +kernel
theorem d_Mo_holds_22 : decode b_Mo_holds 22 = .ok (.getfield 141, 3) := by decide +kernel
theorem d_Mo_holds_25 : decode b_Mo_holds 25 = .ok (.aload_n 0, 1) := by decide +kernel
theorem d_Mo_holds_26 : decode b_Mo_holds 26 = .ok (.getfield 38, 3) := by decide +kernel
theorem d_Mo_holds_29 : decode b_Mo_holds 29 = .ok (.iload_n 1, 1) := by decide +kernel
theorem d_Mo_holds_30 : decode b_Mo_holds 30 = .ok (.iaload, 1) := by decide +kernel
theorem d_Mo_holds_31 : decode b_Mo_holds 31 = .ok (.if_icmp .lt 20, 3) := by decide +kernel
theorem d_Mo_holds_34 : decode b_Mo_holds 34 = .ok (.aload_n 0, 1) := by decide +kernel
theorem d_Mo_holds_35 : decode b_Mo_holds 35 = .ok (.getfield 141, 3) := by decide +kernel
theorem d_Mo_holds_38 : decode b_Mo_holds 38 = .ok (.aload_n 0, 1) := by decide +kernel
theorem d_Mo_holds_39 : decode b_Mo_holds 39 = .ok (.getfield 41, 3) := by decide +kernel
theorem d_Mo_holds_42 : decode b_Mo_holds 42 = .ok (.iload_n 1, 1) := by decide +kernel
theorem d_Mo_holds_43 : decode b_Mo_holds 43 = .ok (.iaload, 1) := by decide +kernel
theorem d_Mo_holds_44 : decode b_Mo_holds 44 = .ok (.if_icmp .gt 7, 3) := by decide +kernel
theorem d_Mo_holds_47 : decode b_Mo_holds 47 = .ok (.iconst 1, 1) := by decide +kernel
theorem d_Mo_holds_48 : decode b_Mo_holds 48 = .ok (.goto 4, 3) := by decide +kernel
theorem d_Mo_holds_51 : decode b_Mo_holds 51 = .ok (.iconst 0, 1) := by decide +kernel
theorem d_Mo_holds_52 : decode b_Mo_holds 52 = .ok (.ireturn, 1) := by decide +kernel
theorem d_Mo_may_0 : decode b_Mo_may 0 = .ok (.iload_n 0, 1) := by decide +kernel
theorem d_Mo_may_1 : decode b_Mo_may 1 = .ok (.bipush 6, 2) := by decide +kernel
theorem d_Mo_may_3 : decode b_Mo_may 3 = .ok (.imul, 1) := by decide +kernel
theorem d_Mo_may_4 : decode b_Mo_may 4 = .ok (.iload_n 1, 1) := by decide +kernel
theorem d_Mo_may_5 : decode b_Mo_may 5 = .ok (.iadd, 1) := by decide +kernel
theorem d_Mo_may_6 : decode b_Mo_may 6 = .ok (.iconst 4, 1) := by decide +kernel
theorem d_Mo_may_7 : decode b_Mo_may 7 = .ok (.imul, 1) := by decide +kernel
theorem d_Mo_may_8 : decode b_Mo_may 8 = .ok (.iload_n 2, 1) := by decide +kernel
theorem d_Mo_may_9 : decode b_Mo_may 9 = .ok (.iadd, 1) := by decide +kernel
theorem d_Mo_may_10 : decode b_Mo_may 10 = .ok (.ireturn, 1) := by decide +kernel
theorem d_Mo_speaks_0 : decode b_Mo_speaks 0 = .ok (.sipush 144, 3) := by decide +kernel
theorem d_Mo_speaks_3 : decode b_Mo_speaks 3 = .ok (.bipush 6, 2) := by decide +kernel
theorem d_Mo_speaks_5 : decode b_Mo_speaks 5 = .ok (.iload_n 0, 1) := by decide +kernel
theorem d_Mo_speaks_6 : decode b_Mo_speaks 6 = .ok (.imul, 1) := by decide +kernel
theorem d_Mo_speaks_7 : decode b_Mo_speaks 7 = .ok (.iadd, 1) := by decide +kernel
theorem d_Mo_speaks_8 : decode b_Mo_speaks 8 = .ok (.iload_n 1, 1) := by decide +kernel
theorem d_Mo_speaks_9 : decode b_Mo_speaks 9 = .ok (.iadd, 1) := by decide +kernel
theorem d_Mo_speaks_10 : decode b_Mo_speaks 10 = .ok (.ireturn, 1) := by decide +kernel
theorem d_Mo_trusts_0 : decode b_Mo_trusts 0 = .ok (.sipush 180, 3) := by decide +kernel
theorem d_Mo_trusts_3 : decode b_Mo_trusts 3 = .ok (.iload_n 0, 1) := by decide +kernel
theorem d_Mo_trusts_4 : decode b_Mo_trusts 4 = .ok (.bipush 6, 2) := by decide +kernel
theorem d_Mo_trusts_6 : decode b_Mo_trusts 6 = .ok (.imul, 1) := by decide +kernel
theorem d_Mo_trusts_7 : decode b_Mo_trusts 7 = .ok (.iload_n 1, 1) := by decide +kernel
theorem d_Mo_trusts_8 : decode b_Mo_trusts 8 = .ok (.iadd, 1) := by decide +kernel
theorem d_Mo_trusts_9 : decode b_Mo_trusts 9 = .ok (.iconst 4, 1) := by decide +kernel
theorem d_Mo_trusts_10 : decode b_Mo_trusts 10 = .ok (.imul, 1) := by decide +kernel
theorem d_Mo_trusts_11 : decode b_Mo_trusts 11 = .ok (.iload_n 2, 1) := by decide +kernel
theorem d_Mo_trusts_12 : decode b_Mo_trusts 12 = .ok (.iadd, 1) := by decide +kernel
theorem d_Mo_trusts_13 : decode b_Mo_trusts 13 = .ok (.iconst 4, 1) := by decide +kernel
theorem d_Mo_trusts_14 : decode b_Mo_trusts 14 = .ok (.imul, 1) := by decide +kernel
theorem d_Mo_trusts_15 : decode b_Mo_trusts 15 = .ok (.iadd, 1) := by decide +kernel
theorem d_Mo_trusts_16 : decode b_Mo_trusts 16 = .ok (.iload_n 3, 1) := by decide +kernel
theorem d_Mo_trusts_17 : decode b_Mo_trusts 17 = .ok (.iadd, 1) := by decide +kernel
theorem d_Mo_trusts_18 : decode b_Mo_trusts 18 = .ok (.ireturn, 1) := by decide +kernel
theorem d_Mo_had_0 : decode b_Mo_had 0 = .ok (.aload_n 0, 1) := by decide +kernel
theorem d_Mo_had_1 : decode b_Mo_had 1 = .ok (.getfield 71, 3) := by decide +kernel
theorem d_Mo_had_4 : decode b_Mo_had 4 = .ok (.iload_n 1, 1) := by decide +kernel
theorem d_Mo_had_5 : decode b_Mo_had 5 = .ok (.iaload, 1) := by decide +kernel
theorem d_Mo_had_6 : decode b_Mo_had 6 = .ok (.ifCond .le 20, 3) := by decide +kernel
theorem d_Mo_had_9 : decode b_Mo_had 9 = .ok (.aload_n 0, 1) := by decide +kernel
theorem d_Mo_had_10 : decode b_Mo_had 10 = .ok (.getfield 71, 3) := by decide +kernel
theorem d_Mo_had_13 : decode b_Mo_had 13 = .ok (.iload_n 1, 1) := by decide +kernel
theorem d_Mo_had_14 : decode b_Mo_had 14 = .ok (.iaload, 1) := by decide +kernel
theorem d_Mo_had_15 : decode b_Mo_had 15 = .ok (.aload_n 0, 1) := by decide +kernel
theorem d_Mo_had_16 : decode b_Mo_had 16 = .ok (.getfield 144, 3) := by decide +kernel
theorem d_Mo_had_19 : decode b_Mo_had 19 = .ok (.if_icmp .ge 7, 3) := by decide +kernel
theorem d_Mo_had_22 : decode b_Mo_had 22 = .ok (.iconst 1, 1) := by decide +kernel
theorem d_Mo_had_23 : decode b_Mo_had 23 = .ok (.goto 4, 3) := by decide +kernel
theorem d_Mo_had_26 : decode b_Mo_had 26 = .ok (.iconst 0, 1) := by decide +kernel
theorem d_Mo_had_27 : decode b_Mo_had 27 = .ok (.ireturn, 1) := by decide +kernel
theorem d_Mo_finds_0 : decode b_Mo_finds 0 = .ok (.aload_n 0, 1) := by decide +kernel
theorem d_Mo_finds_1 : decode b_Mo_finds 1 = .ok (.getfield 71, 3) := by decide +kernel
theorem d_Mo_finds_4 : decode b_Mo_finds 4 = .ok (.iload_n 1, 1) := by decide +kernel
theorem d_Mo_finds_5 : decode b_Mo_finds 5 = .ok (.aload_n 0, 1) := by decide +kernel
theorem d_Mo_finds_6 : decode b_Mo_finds 6 = .ok (.getfield 144, 3) := by decide +kernel
theorem d_Mo_finds_9 : decode b_Mo_finds 9 = .ok (.iastore, 1) := by decide +kernel
theorem d_Mo_finds_10 : decode b_Mo_finds 10 = .ok (.aload_n 0, 1) := by decide +kernel
theorem d_Mo_finds_11 : decode b_Mo_finds 11 = .ok (.getfield 74, 3) := by decide +kernel
theorem d_Mo_finds_14 : decode b_Mo_finds 14 = .ok (.iload_n 1, 1) := by decide +kernel
theorem d_Mo_finds_15 : decode b_Mo_finds 15 = .ok (.iload_n 2, 1) := by decide +kernel
theorem d_Mo_finds_16 : decode b_Mo_finds 16 = .ok (.iastore, 1) := by decide +kernel
theorem d_Mo_finds_17 : decode b_Mo_finds 17 = .ok (.aload_n 0, 1) := by decide +kernel
theorem d_Mo_finds_18 : decode b_Mo_finds 18 = .ok (.getfield 77, 3) := by decide +kernel
theorem d_Mo_finds_21 : decode b_Mo_finds 21 = .ok (.iload_n 1, 1) := by decide +kernel
theorem d_Mo_finds_22 : decode b_Mo_finds 22 = .ok (.iload_n 3, 1) := by decide +kernel
theorem d_Mo_finds_23 : decode b_Mo_finds 23 = .ok (.iastore, 1) := by decide +kernel
theorem d_Mo_finds_24 : decode b_Mo_finds 24 = .ok (.aload_n 0, 1) := by decide +kernel
theorem d_Mo_finds_25 : decode b_Mo_finds 25 = .ok (.getfield 80, 3) := by decide +kernel
theorem d_Mo_finds_28 : decode b_Mo_finds 28 = .ok (.iload_n 1, 1) := by decide +kernel
theorem d_Mo_finds_29 : decode b_Mo_finds 29 = .ok (.iload 4, 2) := by decide +kernel
theorem d_Mo_finds_31 : decode b_Mo_finds 31 = .ok (.iastore, 1) := by decide +kernel
theorem d_Mo_finds_32 : decode b_Mo_finds 32 = .ok (.iconst 1, 1) := by decide +kernel
theorem d_Mo_finds_33 : decode b_Mo_finds 33 = .ok (.ireturn, 1) := by decide +kernel
theorem d_Mo_said_0 : decode b_Mo_said 0 = .ok (.iconst 1, 1) := by decide +kernel
theorem d_Mo_said_1 : decode b_Mo_said 1 = .ok (.istore_n 1, 1) := by decide +kernel
theorem d_Mo_said_2 : decode b_Mo_said 2 = .ok (.iload_n 1, 1) := by decide +kernel
theorem d_Mo_said_3 : decode b_Mo_said 3 = .ok (.aload_n 0, 1) := by decide +kernel
theorem d_Mo_said_4 : decode b_Mo_said 4 = .ok (.getfield 134, 3) := by decide +kernel
theorem d_Mo_said_7 : decode b_Mo_said 7 = .ok (.if_icmp .gt 178, 3) := by decide +kernel
theorem d_Mo_said_10 : decode b_Mo_said 10 = .ok (.iconst (-1), 1) := by decide +kernel
theorem d_Mo_said_11 : decode b_Mo_said 11 = .ok (.istore_n 2, 1) := by decide +kernel
theorem d_Mo_said_12 : decode b_Mo_said 12 = .ok (.aload_n 0, 1) := by decide +kernel
theorem d_Mo_said_13 : decode b_Mo_said 13 = .ok (.iload_n 1, 1) := by decide +kernel
theorem d_Mo_said_14 : decode b_Mo_said 14 = .ok (.invokevirtual 147, 3) := by decide +kernel
theorem d_Mo_said_17 : decode b_Mo_said 17 = .ok (.ifCond .eq 47, 3) := by decide +kernel
theorem d_Mo_said_20 : decode b_Mo_said 20 = .ok (.aload_n 0, 1) := by decide +kernel
theorem d_Mo_said_21 : decode b_Mo_said 21 = .ok (.getfield 23, 3) := by decide +kernel
theorem d_Mo_said_24 : decode b_Mo_said 24 = .ok (.iload_n 1, 1) := by decide +kernel
theorem d_Mo_said_25 : decode b_Mo_said 25 = .ok (.iaload, 1) := by decide +kernel
theorem d_Mo_said_26 : decode b_Mo_said 26 = .ok (.ifCond .ne 38, 3) := by decide +kernel
theorem d_Mo_said_29 : decode b_Mo_said 29 = .ok (.aload_n 0, 1) := by decide +kernel
theorem d_Mo_said_30 : decode b_Mo_said 30 = .ok (.getfield 32, 3) := by decide +kernel
theorem d_Mo_said_33 : decode b_Mo_said 33 = .ok (.iload_n 1, 1) := by decide +kernel
theorem d_Mo_said_34 : decode b_Mo_said 34 = .ok (.iaload, 1) := by decide +kernel
theorem d_Mo_said_35 : decode b_Mo_said 35 = .ok (.aload_n 0, 1) := by decide +kernel
theorem d_Mo_said_36 : decode b_Mo_said 36 = .ok (.getfield 150, 3) := by decide +kernel
theorem d_Mo_said_39 : decode b_Mo_said 39 = .ok (.if_icmp .ne 25, 3) := by decide +kernel
theorem d_Mo_said_42 : decode b_Mo_said 42 = .ok (.aload_n 0, 1) := by decide +kernel
theorem d_Mo_said_43 : decode b_Mo_said 43 = .ok (.getfield 20, 3) := by decide +kernel
theorem d_Mo_said_46 : decode b_Mo_said 46 = .ok (.iload_n 1, 1) := by decide +kernel
theorem d_Mo_said_47 : decode b_Mo_said 47 = .ok (.iaload, 1) := by decide +kernel
theorem d_Mo_said_48 : decode b_Mo_said 48 = .ok (.aload_n 0, 1) := by decide +kernel
theorem d_Mo_said_49 : decode b_Mo_said 49 = .ok (.getfield 26, 3) := by decide +kernel
theorem d_Mo_said_52 : decode b_Mo_said 52 = .ok (.iload_n 1, 1) := by decide +kernel
theorem d_Mo_said_53 : decode b_Mo_said 53 = .ok (.iaload, 1) := by decide +kernel
theorem d_Mo_said_54 : decode b_Mo_said 54 = .ok (.aload_n 0, 1) := by decide +kernel
theorem d_Mo_said_55 : decode b_Mo_said 55 = .ok (.getfield 29, 3) := by decide +kernel
theorem d_Mo_said_58 : decode b_Mo_said 58 = .ok (.iload_n 1, 1) := by decide +kernel
theorem d_Mo_said_59 : decode b_Mo_said 59 = .ok (.iaload, 1) := by decide +kernel
theorem d_Mo_said_60 : decode b_Mo_said 60 = .ok (.invokestatic 153, 3) := by decide +kernel
theorem d_Mo_said_63 : decode b_Mo_said 63 = .ok (.istore_n 2, 1) := by decide +kernel
theorem d_Mo_said_64 : decode b_Mo_said 64 = .ok (.aload_n 0, 1) := by decide +kernel
theorem d_Mo_said_65 : decode b_Mo_said 65 = .ok (.iload_n 1, 1) := by decide +kernel
theorem d_Mo_said_66 : decode b_Mo_said 66 = .ok (.invokevirtual 147, 3) := by decide +kernel
theorem d_Mo_said_69 : decode b_Mo_said 69 = .ok (.ifCond .eq 29, 3) := by decide +kernel
theorem d_Mo_said_72 : decode b_Mo_said 72 = .ok (.aload_n 0, 1) := by decide +kernel
theorem d_Mo_said_73 : decode b_Mo_said 73 = .ok (.getfield 23, 3) := by decide +kernel
theorem d_Mo_said_76 : decode b_Mo_said 76 = .ok (.iload_n 1, 1) := by decide +kernel
theorem d_Mo_said_77 : decode b_Mo_said 77 = .ok (.iaload, 1) := by decide +kernel
theorem d_Mo_said_78 : decode b_Mo_said 78 = .ok (.iconst 1, 1) := by decide +kernel
theorem d_Mo_said_79 : decode b_Mo_said 79 = .ok (.if_icmp .ne 19, 3) := by decide +kernel
theorem d_Mo_said_82 : decode b_Mo_said 82 = .ok (.aload_n 0, 1) := by decide +kernel
theorem d_Mo_said_83 : decode b_Mo_said 83 = .ok (.getfield 26, 3) := by decide +kernel
theorem d_Mo_said_86 : decode b_Mo_said 86 = .ok (.iload_n 1, 1) := by decide +kernel
theorem d_Mo_said_87 : decode b_Mo_said 87 = .ok (.iaload, 1) := by decide +kernel
theorem d_Mo_said_88 : decode b_Mo_said 88 = .ok (.aload_n 0, 1) := by decide +kernel
theorem d_Mo_said_89 : decode b_Mo_said 89 = .ok (.getfield 20, 3) := by decide +kernel
theorem d_Mo_said_92 : decode b_Mo_said 92 = .ok (.iload_n 1, 1) := by decide +kernel
theorem d_Mo_said_93 : decode b_Mo_said 93 = .ok (.iaload, 1) := by decide +kernel
theorem d_Mo_said_94 : decode b_Mo_said 94 = .ok (.invokestatic 157, 3) := by decide +kernel
theorem d_Mo_said_97 : decode b_Mo_said 97 = .ok (.istore_n 2, 1) := by decide +kernel
theorem d_Mo_said_98 : decode b_Mo_said 98 = .ok (.aload_n 0, 1) := by decide +kernel
theorem d_Mo_said_99 : decode b_Mo_said 99 = .ok (.iload_n 1, 1) := by decide +kernel
theorem d_Mo_said_100 : decode b_Mo_said 100 = .ok (.invokevirtual 147, 3) := by decide +kernel
theorem d_Mo_said_103 : decode b_Mo_said 103 = .ok (.ifCond .eq 54, 3) := by decide +kernel
theorem d_Mo_said_106 : decode b_Mo_said 106 = .ok (.aload_n 0, 1) := by decide +kernel
theorem d_Mo_said_107 : decode b_Mo_said 107 = .ok (.getfield 23, 3) := by decide +kernel
theorem d_Mo_said_110 : decode b_Mo_said 110 = .ok (.iload_n 1, 1) := by decide +kernel
theorem d_Mo_said_111 : decode b_Mo_said 111 = .ok (.iaload, 1) := by decide +kernel
theorem d_Mo_said_112 : decode b_Mo_said 112 = .ok (.iconst 2, 1) := by decide +kernel
theorem d_Mo_said_113 : decode b_Mo_said 113 = .ok (.if_icmp .ne 44, 3) := by decide +kernel
theorem d_Mo_said_116 : decode b_Mo_said 116 = .ok (.aload_n 0, 1) := by decide +kernel
theorem d_Mo_said_117 : decode b_Mo_said 117 = .ok (.getfield 32, 3) := by decide +kernel
theorem d_Mo_said_120 : decode b_Mo_said 120 = .ok (.iload_n 1, 1) := by decide +kernel
theorem d_Mo_said_121 : decode b_Mo_said 121 = .ok (.iaload, 1) := by decide +kernel
theorem d_Mo_said_122 : decode b_Mo_said 122 = .ok (.aload_n 0, 1) := by decide +kernel
theorem d_Mo_said_123 : decode b_Mo_said 123 = .ok (.getfield 150, 3) := by decide +kernel
theorem d_Mo_said_126 : decode b_Mo_said 126 = .ok (.if_icmp .ne 31, 3) := by decide +kernel
theorem d_Mo_said_129 : decode b_Mo_said 129 = .ok (.aload_n 0, 1) := by decide +kernel
theorem d_Mo_said_130 : decode b_Mo_said 130 = .ok (.getfield 20, 3) := by decide +kernel
theorem d_Mo_said_133 : decode b_Mo_said 133 = .ok (.iload_n 1, 1) := by decide +kernel
theorem d_Mo_said_134 : decode b_Mo_said 134 = .ok (.iaload, 1) := by decide +kernel
theorem d_Mo_said_135 : decode b_Mo_said 135 = .ok (.aload_n 0, 1) := by decide +kernel
theorem d_Mo_said_136 : decode b_Mo_said 136 = .ok (.getfield 26, 3) := by decide +kernel
theorem d_Mo_said_139 : decode b_Mo_said 139 = .ok (.iload_n 1, 1) := by decide +kernel
theorem d_Mo_said_140 : decode b_Mo_said 140 = .ok (.iaload, 1) := by decide +kernel
theorem d_Mo_said_141 : decode b_Mo_said 141 = .ok (.aload_n 0, 1) := by decide +kernel
theorem d_Mo_said_142 : decode b_Mo_said 142 = .ok (.getfield 29, 3) := by decide +kernel
theorem d_Mo_said_145 : decode b_Mo_said 145 = .ok (.iload_n 1, 1) := by decide +kernel
theorem d_Mo_said_146 : decode b_Mo_said 146 = .ok (.iaload, 1) := by decide +kernel
theorem d_Mo_said_147 : decode b_Mo_said 147 = .ok (.aload_n 0, 1) := by decide +kernel
theorem d_Mo_said_148 : decode b_Mo_said 148 = .ok (.getfield 35, 3) := by decide +kernel
theorem d_Mo_said_151 : decode b_Mo_said 151 = .ok (.iload_n 1, 1) := by decide +kernel
theorem d_Mo_said_152 : decode b_Mo_said 152 = .ok (.iaload, 1) := by decide +kernel
theorem d_Mo_said_153 : decode b_Mo_said 153 = .ok (.invokestatic 160, 3) := by decide +kernel
theorem d_Mo_said_156 : decode b_Mo_said 156 = .ok (.istore_n 2, 1) := by decide +kernel
theorem d_Mo_said_157 : decode b_Mo_said 157 = .ok (.iload_n 2, 1) := by decide +kernel
theorem d_Mo_said_158 : decode b_Mo_said 158 = .ok (.ifCond .lt 21, 3) := by decide +kernel
theorem d_Mo_said_161 : decode b_Mo_said 161 = .ok (.aload_n 0, 1) := by decide +kernel
theorem d_Mo_said_162 : decode b_Mo_said 162 = .ok (.getfield 71, 3) := by decide +kernel
theorem d_Mo_said_165 : decode b_Mo_said 165 = .ok (.iload_n 2, 1) := by decide +kernel
theorem d_Mo_said_166 : decode b_Mo_said 166 = .ok (.iaload, 1) := by decide +kernel
theorem d_Mo_said_167 : decode b_Mo_said 167 = .ok (.ifCond .ne 12, 3) := by decide +kernel
theorem d_Mo_said_170 : decode b_Mo_said 170 = .ok (.aload_n 0, 1) := by decide +kernel
theorem d_Mo_said_171 : decode b_Mo_said 171 = .ok (.iload_n 2, 1) := by decide +kernel
theorem d_Mo_said_172 : decode b_Mo_said 172 = .ok (.iconst 1, 1) := by decide +kernel
theorem d_Mo_said_173 : decode b_Mo_said 173 = .ok (.iload_n 1, 1) := by decide +kernel
theorem d_Mo_said_174 : decode b_Mo_said 174 = .ok (.iconst 0, 1) := by decide +kernel
theorem d_Mo_said_175 : decode b_Mo_said 175 = .ok (.invokevirtual 164, 3) := by decide +kernel
theorem d_Mo_said_178 : decode b_Mo_said 178 = .ok (.pop, 1) := by decide +kernel
theorem d_Mo_said_179 : decode b_Mo_said 179 = .ok (.iinc 1 1, 3) := by decide +kernel
theorem d_Mo_said_182 : decode b_Mo_said 182 = .ok (.goto (-180), 3) := by decide +kernel
theorem d_Mo_said_185 : decode b_Mo_said 185 = .ok (.return_, 1) := by decide +kernel
theorem d_Mo_newMay_0 : decode b_Mo_newMay 0 = .ok (.iload_n 1, 1) := by decide +kernel
theorem d_Mo_newMay_1 : decode b_Mo_newMay 1 = .ok (.iload_n 2, 1) := by decide +kernel
theorem d_Mo_newMay_2 : decode b_Mo_newMay 2 = .ok (.iload_n 3, 1) := by decide +kernel
theorem d_Mo_newMay_3 : decode b_Mo_newMay 3 = .ok (.invokestatic 153, 3) := by decide +kernel
theorem d_Mo_newMay_6 : decode b_Mo_newMay 6 = .ok (.istore 4, 2) := by decide +kernel
theorem d_Mo_newMay_8 : decode b_Mo_newMay 8 = .ok (.aload_n 0, 1) := by decide +kernel
theorem d_Mo_newMay_9 : decode b_Mo_newMay 9 = .ok (.getfield 71, 3) := by decide +kernel
theorem d_Mo_newMay_12 : decode b_Mo_newMay 12 = .ok (.iload 4, 2) := by decide +kernel
theorem d_Mo_newMay_14 : decode b_Mo_newMay 14 = .ok (.iaload, 1) := by decide +kernel
theorem d_Mo_newMay_15 : decode b_Mo_newMay 15 = .ok (.ifCond .le 5, 3) := by decide +kernel
theorem d_Mo_newMay_18 : decode b_Mo_newMay 18 = .ok (.iconst 0, 1) := by decide +kernel
theorem d_Mo_newMay_19 : decode b_Mo_newMay 19 = .ok (.ireturn, 1) := by decide +kernel
theorem d_Mo_newMay_20 : decode b_Mo_newMay 20 = .ok (.iconst 0, 1) := by decide +kernel
theorem d_Mo_newMay_21 : decode b_Mo_newMay 21 = .ok (.istore 5, 2) := by decide +kernel
theorem d_Mo_newMay_23 : decode b_Mo_newMay 23 = .ok (.iload 5, 2) := by decide +kernel
theorem d_Mo_newMay_25 : decode b_Mo_newMay 25 = .ok (.bipush 6, 2) := by decide +kernel
theorem d_Mo_newMay_27 : decode b_Mo_newMay 27 = .ok (.if_icmp .ge 57, 3) := by decide +kernel
theorem d_Mo_newMay_30 : decode b_Mo_newMay 30 = .ok (.aload_n 0, 1) := by decide +kernel
theorem d_Mo_newMay_31 : decode b_Mo_newMay 31 = .ok (.iload 5, 2) := by decide +kernel
theorem d_Mo_newMay_33 : decode b_Mo_newMay 33 = .ok (.iload_n 1, 1) := by decide +kernel
theorem d_Mo_newMay_34 : decode b_Mo_newMay 34 = .ok (.invokestatic 157, 3) := by decide +kernel
theorem d_Mo_newMay_37 : decode b_Mo_newMay 37 = .ok (.invokevirtual 168, 3) := by decide +kernel
theorem d_Mo_newMay_40 : decode b_Mo_newMay 40 = .ok (.ifCond .eq 38, 3) := by decide +kernel
theorem d_Mo_newMay_43 : decode b_Mo_newMay 43 = .ok (.aload_n 0, 1) := by decide +kernel
theorem d_Mo_newMay_44 : decode b_Mo_newMay 44 = .ok (.iload 5, 2) := by decide +kernel
theorem d_Mo_newMay_46 : decode b_Mo_newMay 46 = .ok (.iload_n 2, 1) := by decide +kernel
theorem d_Mo_newMay_47 : decode b_Mo_newMay 47 = .ok (.iload_n 3, 1) := by decide +kernel
theorem d_Mo_newMay_48 : decode b_Mo_newMay 48 = .ok (.invokestatic 153, 3) := by decide +kernel
theorem d_Mo_newMay_51 : decode b_Mo_newMay 51 = .ok (.invokevirtual 168, 3) := by decide +kernel
theorem d_Mo_newMay_54 : decode b_Mo_newMay 54 = .ok (.ifCond .eq 24, 3) := by decide +kernel
theorem d_Mo_newMay_57 : decode b_Mo_newMay 57 = .ok (.aload_n 0, 1) := by decide +kernel
theorem d_Mo_newMay_58 : decode b_Mo_newMay 58 = .ok (.iload 4, 2) := by decide +kernel
theorem d_Mo_newMay_60 : decode b_Mo_newMay 60 = .ok (.iconst 2, 1) := by decide +kernel
theorem d_Mo_newMay_61 : decode b_Mo_newMay 61 = .ok (.iload 5, 2) := by decide +kernel
theorem d_Mo_newMay_63 : decode b_Mo_newMay 63 = .ok (.iload_n 1, 1) := by decide +kernel
theorem d_Mo_newMay_64 : decode b_Mo_newMay 64 = .ok (.invokestatic 157, 3) := by decide +kernel
theorem d_Mo_newMay_67 : decode b_Mo_newMay 67 = .ok (.iload 5, 2) := by decide +kernel
theorem d_Mo_newMay_69 : decode b_Mo_newMay 69 = .ok (.iload_n 2, 1) := by decide +kernel
theorem d_Mo_newMay_70 : decode b_Mo_newMay 70 = .ok (.iload_n 3, 1) := by decide +kernel
theorem d_Mo_newMay_71 : decode b_Mo_newMay 71 = .ok (.invokestatic 153, 3) := by decide +kernel
theorem d_Mo_newMay_74 : decode b_Mo_newMay 74 = .ok (.invokevirtual 164, 3) := by decide +kernel
theorem d_Mo_newMay_77 : decode b_Mo_newMay 77 = .ok (.ireturn, 1) := by decide +kernel
theorem d_Mo_newMay_78 : decode b_Mo_newMay 78 = .ok (.iinc 5 1, 3) := by decide +kernel
theorem d_Mo_newMay_81 : decode b_Mo_newMay 81 = .ok (.goto (-58), 3) := by decide +kernel
theorem d_Mo_newMay_84 : decode b_Mo_newMay 84 = .ok (.iconst 0, 1) := by decide +kernel
theorem d_Mo_newMay_85 : decode b_Mo_newMay 85 = .ok (.istore 5, 2) := by decide +kernel
theorem d_Mo_newMay_87 : decode b_Mo_newMay 87 = .ok (.iload 5, 2) := by decide +kernel
theorem d_Mo_newMay_89 : decode b_Mo_newMay 89 = .ok (.bipush 6, 2) := by decide +kernel
theorem d_Mo_newMay_91 : decode b_Mo_newMay 91 = .ok (.if_icmp .ge 78, 3) := by decide +kernel
theorem d_Mo_newMay_94 : decode b_Mo_newMay 94 = .ok (.iconst 0, 1) := by decide +kernel
theorem d_Mo_newMay_95 : decode b_Mo_newMay 95 = .ok (.istore 6, 2) := by decide +kernel
theorem d_Mo_newMay_97 : decode b_Mo_newMay 97 = .ok (.iload 6, 2) := by decide +kernel
theorem d_Mo_newMay_99 : decode b_Mo_newMay 99 = .ok (.iconst 4, 1) := by decide +kernel
theorem d_Mo_newMay_100 : decode b_Mo_newMay 100 = .ok (.if_icmp .ge 63, 3) := by decide +kernel
theorem d_Mo_newMay_103 : decode b_Mo_newMay 103 = .ok (.aload_n 0, 1) := by decide +kernel
theorem d_Mo_newMay_104 : decode b_Mo_newMay 104 = .ok (.iload 5, 2) := by decide +kernel
theorem d_Mo_newMay_106 : decode b_Mo_newMay 106 = .ok (.iload_n 2, 1) := by decide +kernel
theorem d_Mo_newMay_107 : decode b_Mo_newMay 107 = .ok (.iload_n 3, 1) := by decide +kernel
theorem d_Mo_newMay_108 : decode b_Mo_newMay 108 = .ok (.invokestatic 153, 3) := by decide +kernel
theorem d_Mo_newMay_111 : decode b_Mo_newMay 111 = .ok (.invokevirtual 168, 3) := by decide +kernel
theorem d_Mo_newMay_114 : decode b_Mo_newMay 114 = .ok (.ifCond .eq 49, 3) := by decide +kernel
theorem d_Mo_newMay_117 : decode b_Mo_newMay 117 = .ok (.aload_n 0, 1) := by decide +kernel
theorem d_Mo_newMay_118 : decode b_Mo_newMay 118 = .ok (.iload_n 1, 1) := by decide +kernel
theorem d_Mo_newMay_119 : decode b_Mo_newMay 119 = .ok (.iload 5, 2) := by decide +kernel
theorem d_Mo_newMay_121 : decode b_Mo_newMay 121 = .ok (.iload_n 3, 1) := by decide +kernel
theorem d_Mo_newMay_122 : decode b_Mo_newMay 122 = .ok (.iload 6, 2) := by decide +kernel
theorem d_Mo_newMay_124 : decode b_Mo_newMay 124 = .ok (.invokestatic 160, 3) := by decide +kernel
theorem d_Mo_newMay_127 : decode b_Mo_newMay 127 = .ok (.invokevirtual 168, 3) := by decide +kernel
theorem d_Mo_newMay_130 : decode b_Mo_newMay 130 = .ok (.ifCond .eq 27, 3) := by decide +kernel
theorem d_Mo_newMay_133 : decode b_Mo_newMay 133 = .ok (.aload_n 0, 1) := by decide +kernel
theorem d_Mo_newMay_134 : decode b_Mo_newMay 134 = .ok (.iload 4, 2) := by decide +kernel
theorem d_Mo_newMay_136 : decode b_Mo_newMay 136 = .ok (.iconst 3, 1) := by decide +kernel
theorem d_Mo_newMay_137 : decode b_Mo_newMay 137 = .ok (.iload_n 1, 1) := by decide +kernel
theorem d_Mo_newMay_138 : decode b_Mo_newMay 138 = .ok (.iload 5, 2) := by decide +kernel
theorem d_Mo_newMay_140 : decode b_Mo_newMay 140 = .ok (.iload_n 3, 1) := by decide +kernel
theorem d_Mo_newMay_141 : decode b_Mo_newMay 141 = .ok (.iload 6, 2) := by decide +kernel
theorem d_Mo_newMay_143 : decode b_Mo_newMay 143 = .ok (.invokestatic 160, 3) := by decide +kernel
theorem d_Mo_newMay_146 : decode b_Mo_newMay 146 = .ok (.iload 5, 2) := by decide +kernel
theorem d_Mo_newMay_148 : decode b_Mo_newMay 148 = .ok (.iload_n 2, 1) := by decide +kernel
theorem d_Mo_newMay_149 : decode b_Mo_newMay 149 = .ok (.iload_n 3, 1) := by decide +kernel
theorem d_Mo_newMay_150 : decode b_Mo_newMay 150 = .ok (.invokestatic 153, 3) := by decide +kernel
theorem d_Mo_newMay_153 : decode b_Mo_newMay 153 = .ok (.invokevirtual 164, 3) := by decide +kernel
theorem d_Mo_newMay_156 : decode b_Mo_newMay 156 = .ok (.ireturn, 1) := by decide +kernel
theorem d_Mo_newMay_157 : decode b_Mo_newMay 157 = .ok (.iinc 6 1, 3) := by decide +kernel
theorem d_Mo_newMay_160 : decode b_Mo_newMay 160 = .ok (.goto (-63), 3) := by decide +kernel
theorem d_Mo_newMay_163 : decode b_Mo_newMay 163 = .ok (.iinc 5 1, 3) := by decide +kernel
theorem d_Mo_newMay_166 : decode b_Mo_newMay 166 = .ok (.goto (-79), 3) := by decide +kernel
theorem d_Mo_newMay_169 : decode b_Mo_newMay 169 = .ok (.iconst 1, 1) := by decide +kernel
theorem d_Mo_newMay_170 : decode b_Mo_newMay 170 = .ok (.istore 5, 2) := by decide +kernel
theorem d_Mo_newMay_172 : decode b_Mo_newMay 172 = .ok (.iload 5, 2) := by decide +kernel
theorem d_Mo_newMay_174 : decode b_Mo_newMay 174 = .ok (.aload_n 0, 1) := by decide +kernel
theorem d_Mo_newMay_175 : decode b_Mo_newMay 175 = .ok (.getfield 134, 3) := by decide +kernel
theorem d_Mo_newMay_178 : decode b_Mo_newMay 178 = .ok (.if_icmp .gt 93, 3) := by decide +kernel
theorem d_Mo_newMay_181 : decode b_Mo_newMay 181 = .ok (.aload_n 0, 1) := by decide +kernel
theorem d_Mo_newMay_182 : decode b_Mo_newMay 182 = .ok (.iload 5, 2) := by decide +kernel
theorem d_Mo_newMay_184 : decode b_Mo_newMay 184 = .ok (.invokevirtual 147, 3) := by decide +kernel
theorem d_Mo_newMay_187 : decode b_Mo_newMay 187 = .ok (.ifCond .eq 78, 3) := by decide +kernel
theorem d_Mo_newMay_190 : decode b_Mo_newMay 190 = .ok (.aload_n 0, 1) := by decide +kernel
theorem d_Mo_newMay_191 : decode b_Mo_newMay 191 = .ok (.getfield 23, 3) := by decide +kernel
theorem d_Mo_newMay_194 : decode b_Mo_newMay 194 = .ok (.iload 5, 2) := by decide +kernel
theorem d_Mo_newMay_196 : decode b_Mo_newMay 196 = .ok (.iaload, 1) := by decide +kernel
theorem d_Mo_newMay_197 : decode b_Mo_newMay 197 = .ok (.iconst 3, 1) := by decide +kernel
theorem d_Mo_newMay_198 : decode b_Mo_newMay 198 = .ok (.if_icmp .ne 67, 3) := by decide +kernel
theorem d_Mo_newMay_201 : decode b_Mo_newMay 201 = .ok (.aload_n 0, 1) := by decide +kernel
theorem d_Mo_newMay_202 : decode b_Mo_newMay 202 = .ok (.getfield 20, 3) := by decide +kernel
theorem d_Mo_newMay_205 : decode b_Mo_newMay 205 = .ok (.iload 5, 2) := by decide +kernel
theorem d_Mo_newMay_207 : decode b_Mo_newMay 207 = .ok (.iaload, 1) := by decide +kernel
theorem d_Mo_newMay_208 : decode b_Mo_newMay 208 = .ok (.iload_n 1, 1) := by decide +kernel
theorem d_Mo_newMay_209 : decode b_Mo_newMay 209 = .ok (.if_icmp .ne 56, 3) := by decide +kernel
theorem d_Mo_newMay_212 : decode b_Mo_newMay 212 = .ok (.aload_n 0, 1) := by decide +kernel
theorem d_Mo_newMay_213 : decode b_Mo_newMay 213 = .ok (.getfield 29, 3) := by decide +kernel
theorem d_Mo_newMay_216 : decode b_Mo_newMay 216 = .ok (.iload 5, 2) := by decide +kernel
theorem d_Mo_newMay_218 : decode b_Mo_newMay 218 = .ok (.iaload, 1) := by decide +kernel
theorem d_Mo_newMay_219 : decode b_Mo_newMay 219 = .ok (.iload_n 3, 1) := by decide +kernel
theorem d_Mo_newMay_220 : decode b_Mo_newMay 220 = .ok (.if_icmp .ne 45, 3) := by decide +kernel
theorem d_Mo_newMay_223 : decode b_Mo_newMay 223 = .ok (.aload_n 0, 1) := by decide +kernel
theorem d_Mo_newMay_224 : decode b_Mo_newMay 224 = .ok (.iload_n 1, 1) := by decide +kernel
theorem d_Mo_newMay_225 : decode b_Mo_newMay 225 = .ok (.iload_n 2, 1) := by decide +kernel
theorem d_Mo_newMay_226 : decode b_Mo_newMay 226 = .ok (.aload_n 0, 1) := by decide +kernel
theorem d_Mo_newMay_227 : decode b_Mo_newMay 227 = .ok (.getfield 26, 3) := by decide +kernel
theorem d_Mo_newMay_230 : decode b_Mo_newMay 230 = .ok (.iload 5, 2) := by decide +kernel
theorem d_Mo_newMay_232 : decode b_Mo_newMay 232 = .ok (.iaload, 1) := by decide +kernel
theorem d_Mo_newMay_233 : decode b_Mo_newMay 233 = .ok (.invokestatic 153, 3) := by decide +kernel
theorem d_Mo_newMay_236 : decode b_Mo_newMay 236 = .ok (.invokevirtual 168, 3) := by decide +kernel
theorem d_Mo_newMay_239 : decode b_Mo_newMay 239 = .ok (.ifCond .eq 26, 3) := by decide +kernel
theorem d_Mo_newMay_242 : decode b_Mo_newMay 242 = .ok (.aload_n 0, 1) := by decide +kernel
theorem d_Mo_newMay_243 : decode b_Mo_newMay 243 = .ok (.iload 4, 2) := by decide +kernel
theorem d_Mo_newMay_245 : decode b_Mo_newMay 245 = .ok (.bipush 7, 2) := by decide +kernel
theorem d_Mo_newMay_247 : decode b_Mo_newMay 247 = .ok (.iload 5, 2) := by decide +kernel
theorem d_Mo_newMay_249 : decode b_Mo_newMay 249 = .ok (.iload_n 1, 1) := by decide +kernel
theorem d_Mo_newMay_250 : decode b_Mo_newMay 250 = .ok (.iload_n 2, 1) := by decide +kernel
theorem d_Mo_newMay_251 : decode b_Mo_newMay 251 = .ok (.aload_n 0, 1) := by decide +kernel
theorem d_Mo_newMay_252 : decode b_Mo_newMay 252 = .ok (.getfield 26, 3) := by decide +kernel
theorem d_Mo_newMay_255 : decode b_Mo_newMay 255 = .ok (.iload 5, 2) := by decide +kernel
theorem d_Mo_newMay_257 : decode b_Mo_newMay 257 = .ok (.iaload, 1) := by decide +kernel
theorem d_Mo_newMay_258 : decode b_Mo_newMay 258 = .ok (.invokestatic 153, 3) := by decide +kernel
theorem d_Mo_newMay_261 : decode b_Mo_newMay 261 = .ok (.invokevirtual 164, 3) := by decide +kernel
theorem d_Mo_newMay_264 : decode b_Mo_newMay 264 = .ok (.ireturn, 1) := by decide +kernel
theorem d_Mo_newMay_265 : decode b_Mo_newMay 265 = .ok (.iinc 5 1, 3) := by decide +kernel
theorem d_Mo_newMay_268 : decode b_Mo_newMay 268 = .ok (.goto (-96), 3) := by decide +kernel
theorem d_Mo_newMay_271 : decode b_Mo_newMay 271 = .ok (.iconst 0, 1) := by decide +kernel
theorem d_Mo_newMay_272 : decode b_Mo_newMay 272 = .ok (.ireturn, 1) := by decide +kernel
theorem d_Mo_newTrust_0 : decode b_Mo_newTrust 0 = .ok (.iload_n 1, 1) := by decide +kernel
theorem d_Mo_newTrust_1 : decode b_Mo_newTrust 1 = .ok (.iload_n 2, 1) := by decide +kernel
theorem d_Mo_newTrust_2 : decode b_Mo_newTrust 2 = .ok (.iload_n 3, 1) := by decide +kernel
theorem d_Mo_newTrust_3 : decode b_Mo_newTrust 3 = .ok (.iload 4, 2) := by decide +kernel
theorem d_Mo_newTrust_5 : decode b_Mo_newTrust 5 = .ok (.invokestatic 160, 3) := by decide +kernel
theorem d_Mo_newTrust_8 : decode b_Mo_newTrust 8 = .ok (.istore 5, 2) := by decide +kernel
theorem d_Mo_newTrust_10 : decode b_Mo_newTrust 10 = .ok (.aload_n 0, 1) := by decide +kernel
theorem d_Mo_newTrust_11 : decode b_Mo_newTrust 11 = .ok (.getfield 71, 3) := by decide +kernel
theorem d_Mo_newTrust_14 : decode b_Mo_newTrust 14 = .ok (.iload 5, 2) := by decide +kernel
theorem d_Mo_newTrust_16 : decode b_Mo_newTrust 16 = .ok (.iaload, 1) := by decide +kernel
theorem d_Mo_newTrust_17 : decode b_Mo_newTrust 17 = .ok (.ifCond .le 5, 3) := by decide +kernel
theorem d_Mo_newTrust_20 : decode b_Mo_newTrust 20 = .ok (.iconst 0, 1) := by decide +kernel
theorem d_Mo_newTrust_21 : decode b_Mo_newTrust 21 = .ok (.ireturn, 1) := by decide +kernel
theorem d_Mo_newTrust_22 : decode b_Mo_newTrust 22 = .ok (.iconst 0, 1) := by decide +kernel
theorem d_Mo_newTrust_23 : decode b_Mo_newTrust 23 = .ok (.istore 6, 2) := by decide +kernel
theorem d_Mo_newTrust_25 : decode b_Mo_newTrust 25 = .ok (.iload 6, 2) := by decide +kernel
theorem d_Mo_newTrust_27 : decode b_Mo_newTrust 27 = .ok (.bipush 6, 2) := by decide +kernel
theorem d_Mo_newTrust_29 : decode b_Mo_newTrust 29 = .ok (.if_icmp .ge 129, 3) := by decide +kernel
theorem d_Mo_newTrust_32 : decode b_Mo_newTrust 32 = .ok (.iload 4, 2) := by decide +kernel
theorem d_Mo_newTrust_34 : decode b_Mo_newTrust 34 = .ok (.iconst 1, 1) := by decide +kernel
theorem d_Mo_newTrust_35 : decode b_Mo_newTrust 35 = .ok (.iadd, 1) := by decide +kernel
theorem d_Mo_newTrust_36 : decode b_Mo_newTrust 36 = .ok (.istore 7, 2) := by decide +kernel
theorem d_Mo_newTrust_38 : decode b_Mo_newTrust 38 = .ok (.iload 7, 2) := by decide +kernel
theorem d_Mo_newTrust_40 : decode b_Mo_newTrust 40 = .ok (.iconst 4, 1) := by decide +kernel
theorem d_Mo_newTrust_41 : decode b_Mo_newTrust 41 = .ok (.if_icmp .ge 111, 3) := by decide +kernel
theorem d_Mo_newTrust_44 : decode b_Mo_newTrust 44 = .ok (.iload 4, 2) := by decide +kernel
theorem d_Mo_newTrust_46 : decode b_Mo_newTrust 46 = .ok (.istore 8, 2) := by decide +kernel
theorem d_Mo_newTrust_48 : decode b_Mo_newTrust 48 = .ok (.iload 8, 2) := by decide +kernel
theorem d_Mo_newTrust_50 : decode b_Mo_newTrust 50 = .ok (.iconst 4, 1) := by decide +kernel
theorem d_Mo_newTrust_51 : decode b_Mo_newTrust 51 = .ok (.if_icmp .ge 95, 3) := by decide +kernel
theorem d_Mo_newTrust_54 : decode b_Mo_newTrust 54 = .ok (.aload_n 0, 1) := by decide +kernel
theorem d_Mo_newTrust_55 : decode b_Mo_newTrust 55 = .ok (.iload_n 1, 1) := by decide +kernel
theorem d_Mo_newTrust_56 : decode b_Mo_newTrust 56 = .ok (.iload 6, 2) := by decide +kernel
theorem d_Mo_newTrust_58 : decode b_Mo_newTrust 58 = .ok (.iload_n 3, 1) := by decide +kernel
theorem d_Mo_newTrust_59 : decode b_Mo_newTrust 59 = .ok (.iload 7, 2) := by decide +kernel
theorem d_Mo_newTrust_61 : decode b_Mo_newTrust 61 = .ok (.invokestatic 160, 3) := by decide +kernel
theorem d_Mo_newTrust_64 : decode b_Mo_newTrust 64 = .ok (.invokevirtual 168, 3) := by decide +kernel
theorem d_Mo_newTrust_67 : decode b_Mo_newTrust 67 = .ok (.ifCond .eq 79, 3) := by decide +kernel
theorem d_Mo_newTrust_70 : decode b_Mo_newTrust 70 = .ok (.iload 7, 2) := by decide +kernel
theorem d_Mo_newTrust_72 : decode b_Mo_newTrust 72 = .ok (.iconst 1, 1) := by decide +kernel
theorem d_Mo_newTrust_73 : decode b_Mo_newTrust 73 = .ok (.isub, 1) := by decide +kernel
theorem d_Mo_newTrust_74 : decode b_Mo_newTrust 74 = .ok (.iload 4, 2) := by decide +kernel
theorem d_Mo_newTrust_76 : decode b_Mo_newTrust 76 = .ok (.if_icmp .eq 10, 3) := by decide +kernel
theorem d_Mo_newTrust_79 : decode b_Mo_newTrust 79 = .ok (.iload 8, 2) := by decide +kernel
theorem d_Mo_newTrust_81 : decode b_Mo_newTrust 81 = .ok (.iload 4, 2) := by decide +kernel
theorem d_Mo_newTrust_83 : decode b_Mo_newTrust 83 = .ok (.if_icmp .ne 7, 3) := by decide +kernel
theorem d_Mo_newTrust_86 : decode b_Mo_newTrust 86 = .ok (.iconst 1, 1) := by decide +kernel
theorem d_Mo_newTrust_87 : decode b_Mo_newTrust 87 = .ok (.goto 4, 3) := by decide +kernel
theorem d_Mo_newTrust_90 : decode b_Mo_newTrust 90 = .ok (.iconst 0, 1) := by decide +kernel
theorem d_Mo_newTrust_91 : decode b_Mo_newTrust 91 = .ok (.istore 9, 2) := by decide +kernel
theorem d_Mo_newTrust_93 : decode b_Mo_newTrust 93 = .ok (.iload 9, 2) := by decide +kernel
theorem d_Mo_newTrust_95 : decode b_Mo_newTrust 95 = .ok (.ifCond .eq 45, 3) := by decide +kernel
theorem d_Mo_newTrust_98 : decode b_Mo_newTrust 98 = .ok (.aload_n 0, 1) := by decide +kernel
theorem d_Mo_newTrust_99 : decode b_Mo_newTrust 99 = .ok (.iload 6, 2) := by decide +kernel
theorem d_Mo_newTrust_101 : decode b_Mo_newTrust 101 = .ok (.iload_n 2, 1) := by decide +kernel
theorem d_Mo_newTrust_102 : decode b_Mo_newTrust 102 = .ok (.iload_n 3, 1) := by decide +kernel
theorem d_Mo_newTrust_103 : decode b_Mo_newTrust 103 = .ok (.iload 8, 2) := by decide +kernel
theorem d_Mo_newTrust_105 : decode b_Mo_newTrust 105 = .ok (.invokestatic 160, 3) := by decide +kernel
theorem d_Mo_newTrust_108 : decode b_Mo_newTrust 108 = .ok (.invokevirtual 168, 3) := by decide +kernel
theorem d_Mo_newTrust_111 : decode b_Mo_newTrust 111 = .ok (.ifCond .eq 29, 3) := by decide +kernel
theorem d_Mo_newTrust_114 : decode b_Mo_newTrust 114 = .ok (.aload_n 0, 1) := by decide +kernel
theorem d_Mo_newTrust_115 : decode b_Mo_newTrust 115 = .ok (.iload 5, 2) := by decide +kernel
theorem d_Mo_newTrust_117 : decode b_Mo_newTrust 117 = .ok (.iconst 4, 1) := by decide +kernel
theorem d_Mo_newTrust_118 : decode b_Mo_newTrust 118 = .ok (.iload_n 1, 1) := by decide +kernel
theorem d_Mo_newTrust_119 : decode b_Mo_newTrust 119 = .ok (.iload 6, 2) := by decide +kernel
theorem d_Mo_newTrust_121 : decode b_Mo_newTrust 121 = .ok (.iload_n 3, 1) := by decide +kernel
theorem d_Mo_newTrust_122 : decode b_Mo_newTrust 122 = .ok (.iload 7, 2) := by decide +kernel
theorem d_Mo_newTrust_124 : decode b_Mo_newTrust 124 = .ok (.invokestatic 160, 3) := by decide +kernel
theorem d_Mo_newTrust_127 : decode b_Mo_newTrust 127 = .ok (.iload 6, 2) := by decide +kernel
theorem d_Mo_newTrust_129 : decode b_Mo_newTrust 129 = .ok (.iload_n 2, 1) := by decide +kernel
theorem d_Mo_newTrust_130 : decode b_Mo_newTrust 130 = .ok (.iload_n 3, 1) := by decide +kernel
theorem d_Mo_newTrust_131 : decode b_Mo_newTrust 131 = .ok (.iload 8, 2) := by decide +kernel
theorem d_Mo_newTrust_133 : decode b_Mo_newTrust 133 = .ok (.invokestatic 160, 3) := by decide +kernel
theorem d_Mo_newTrust_136 : decode b_Mo_newTrust 136 = .ok (.invokevirtual 164, 3) := by decide +kernel
theorem d_Mo_newTrust_139 : decode b_Mo_newTrust 139 = .ok (.ireturn, 1) := by decide +kernel
theorem d_Mo_newTrust_140 : decode b_Mo_newTrust 140 = .ok (.iinc 8 1, 3) := by decide +kernel
theorem d_Mo_newTrust_143 : decode b_Mo_newTrust 143 = .ok (.goto (-95), 3) := by decide +kernel
theorem d_Mo_newTrust_146 : decode b_Mo_newTrust 146 = .ok (.iinc 7 1, 3) := by decide +kernel
theorem d_Mo_newTrust_149 : decode b_Mo_newTrust 149 = .ok (.goto (-111), 3) := by decide +kernel
theorem d_Mo_newTrust_152 : decode b_Mo_newTrust 152 = .ok (.iinc 6 1, 3) := by decide +kernel
theorem d_Mo_newTrust_155 : decode b_Mo_newTrust 155 = .ok (.goto (-130), 3) := by decide +kernel
theorem d_Mo_newTrust_158 : decode b_Mo_newTrust 158 = .ok (.iconst 0, 1) := by decide +kernel
theorem d_Mo_newTrust_159 : decode b_Mo_newTrust 159 = .ok (.istore 6, 2) := by decide +kernel
theorem d_Mo_newTrust_161 : decode b_Mo_newTrust 161 = .ok (.iload 6, 2) := by decide +kernel
theorem d_Mo_newTrust_163 : decode b_Mo_newTrust 163 = .ok (.bipush 6, 2) := by decide +kernel
theorem d_Mo_newTrust_165 : decode b_Mo_newTrust 165 = .ok (.if_icmp .ge 61, 3) := by decide +kernel
theorem d_Mo_newTrust_168 : decode b_Mo_newTrust 168 = .ok (.aload_n 0, 1) := by decide +kernel
theorem d_Mo_newTrust_169 : decode b_Mo_newTrust 169 = .ok (.iload 6, 2) := by decide +kernel
theorem d_Mo_newTrust_171 : decode b_Mo_newTrust 171 = .ok (.iload_n 1, 1) := by decide +kernel
theorem d_Mo_newTrust_172 : decode b_Mo_newTrust 172 = .ok (.invokestatic 157, 3) := by decide +kernel
theorem d_Mo_newTrust_175 : decode b_Mo_newTrust 175 = .ok (.invokevirtual 168, 3) := by decide +kernel
theorem d_Mo_newTrust_178 : decode b_Mo_newTrust 178 = .ok (.ifCond .eq 42, 3) := by decide +kernel
theorem d_Mo_newTrust_181 : decode b_Mo_newTrust 181 = .ok (.aload_n 0, 1) := by decide +kernel
theorem d_Mo_newTrust_182 : decode b_Mo_newTrust 182 = .ok (.iload 6, 2) := by decide +kernel
theorem d_Mo_newTrust_184 : decode b_Mo_newTrust 184 = .ok (.iload_n 2, 1) := by decide +kernel
theorem d_Mo_newTrust_185 : decode b_Mo_newTrust 185 = .ok (.iload_n 3, 1) := by decide +kernel
theorem d_Mo_newTrust_186 : decode b_Mo_newTrust 186 = .ok (.iload 4, 2) := by decide +kernel
theorem d_Mo_newTrust_188 : decode b_Mo_newTrust 188 = .ok (.invokestatic 160, 3) := by decide +kernel
theorem d_Mo_newTrust_191 : decode b_Mo_newTrust 191 = .ok (.invokevirtual 168, 3) := by decide +kernel
theorem d_Mo_newTrust_194 : decode b_Mo_newTrust 194 = .ok (.ifCond .eq 26, 3) := by decide +kernel
theorem d_Mo_newTrust_197 : decode b_Mo_newTrust 197 = .ok (.aload_n 0, 1) := by decide +kernel
theorem d_Mo_newTrust_198 : decode b_Mo_newTrust 198 = .ok (.iload 5, 2) := by decide +kernel
theorem d_Mo_newTrust_200 : decode b_Mo_newTrust 200 = .ok (.iconst 5, 1) := by decide +kernel
theorem d_Mo_newTrust_201 : decode b_Mo_newTrust 201 = .ok (.iload 6, 2) := by decide +kernel
theorem d_Mo_newTrust_203 : decode b_Mo_newTrust 203 = .ok (.iload_n 1, 1) := by decide +kernel
theorem d_Mo_newTrust_204 : decode b_Mo_newTrust 204 = .ok (.invokestatic 157, 3) := by decide +kernel
theorem d_Mo_newTrust_207 : decode b_Mo_newTrust 207 = .ok (.iload 6, 2) := by decide +kernel
theorem d_Mo_newTrust_209 : decode b_Mo_newTrust 209 = .ok (.iload_n 2, 1) := by decide +kernel
theorem d_Mo_newTrust_210 : decode b_Mo_newTrust 210 = .ok (.iload_n 3, 1) := by decide +kernel
theorem d_Mo_newTrust_211 : decode b_Mo_newTrust 211 = .ok (.iload 4, 2) := by decide +kernel
theorem d_Mo_newTrust_213 : decode b_Mo_newTrust 213 = .ok (.invokestatic 160, 3) := by decide +kernel
theorem d_Mo_newTrust_216 : decode b_Mo_newTrust 216 = .ok (.invokevirtual 164, 3) := by decide +kernel
theorem d_Mo_newTrust_219 : decode b_Mo_newTrust 219 = .ok (.ireturn, 1) := by decide +kernel
theorem d_Mo_newTrust_220 : decode b_Mo_newTrust 220 = .ok (.iinc 6 1, 3) := by decide +kernel
theorem d_Mo_newTrust_223 : decode b_Mo_newTrust 223 = .ok (.goto (-62), 3) := by decide +kernel
theorem d_Mo_newTrust_226 : decode b_Mo_newTrust 226 = .ok (.iconst 0, 1) := by decide +kernel
theorem d_Mo_newTrust_227 : decode b_Mo_newTrust 227 = .ok (.ireturn, 1) := by decide +kernel
end
section
theorem d_Mo_newVoice_0 : decode b_Mo_newVoice 0 = .ok (.iload_n 1, 1) := by decide +kernel
theorem d_Mo_newVoice_1 : decode b_Mo_newVoice 1 = .ok (.iload_n 2, 1) := by decide +kernel
theorem d_Mo_newVoice_2 : decode b_Mo_newVoice 2 = .ok (.invokestatic 157, 3) := by decide +kernel
theorem d_Mo_newVoice_5 : decode b_Mo_newVoice 5 = .ok (.istore_n 3, 1) := by decide +kernel
theorem d_Mo_newVoice_6 : decode b_Mo_newVoice 6 = .ok (.aload_n 0, 1) := by decide +kernel
theorem d_Mo_newVoice_7 : decode b_Mo_newVoice 7 = .ok (.getfield 71, 3) := by decide +kernel
theorem d_Mo_newVoice_10 : decode b_Mo_newVoice 10 = .ok (.iload_n 3, 1) := by decide +kernel
theorem d_Mo_newVoice_11 : decode b_Mo_newVoice 11 = .ok (.iaload, 1) := by decide +kernel
theorem d_Mo_newVoice_12 : decode b_Mo_newVoice 12 = .ok (.ifCond .le 5, 3) := by decide +kernel
theorem d_Mo_newVoice_15 : decode b_Mo_newVoice 15 = .ok (.iconst 0, 1) := by decide +kernel
theorem d_Mo_newVoice_16 : decode b_Mo_newVoice 16 = .ok (.ireturn, 1) := by decide +kernel
theorem d_Mo_newVoice_17 : decode b_Mo_newVoice 17 = .ok (.iconst 0, 1) := by decide +kernel
theorem d_Mo_newVoice_18 : decode b_Mo_newVoice 18 = .ok (.istore 4, 2) := by decide +kernel
theorem d_Mo_newVoice_20 : decode b_Mo_newVoice 20 = .ok (.iload 4, 2) := by decide +kernel
theorem d_Mo_newVoice_22 : decode b_Mo_newVoice 22 = .ok (.bipush 6, 2) := by decide +kernel
theorem d_Mo_newVoice_24 : decode b_Mo_newVoice 24 = .ok (.if_icmp .ge 55, 3) := by decide +kernel
theorem d_Mo_newVoice_27 : decode b_Mo_newVoice 27 = .ok (.aload_n 0, 1) := by decide +kernel
theorem d_Mo_newVoice_28 : decode b_Mo_newVoice 28 = .ok (.iload_n 1, 1) := by decide +kernel
theorem d_Mo_newVoice_29 : decode b_Mo_newVoice 29 = .ok (.iload 4, 2) := by decide +kernel
theorem d_Mo_newVoice_31 : decode b_Mo_newVoice 31 = .ok (.invokestatic 157, 3) := by decide +kernel
theorem d_Mo_newVoice_34 : decode b_Mo_newVoice 34 = .ok (.invokevirtual 168, 3) := by decide +kernel
theorem d_Mo_newVoice_37 : decode b_Mo_newVoice 37 = .ok (.ifCond .eq 36, 3) := by decide +kernel
theorem d_Mo_newVoice_40 : decode b_Mo_newVoice 40 = .ok (.aload_n 0, 1) := by decide +kernel
theorem d_Mo_newVoice_41 : decode b_Mo_newVoice 41 = .ok (.iload 4, 2) := by decide +kernel
theorem d_Mo_newVoice_43 : decode b_Mo_newVoice 43 = .ok (.iload_n 2, 1) := by decide +kernel
theorem d_Mo_newVoice_44 : decode b_Mo_newVoice 44 = .ok (.invokestatic 157, 3) := by decide +kernel
theorem d_Mo_newVoice_47 : decode b_Mo_newVoice 47 = .ok (.invokevirtual 168, 3) := by decide +kernel
theorem d_Mo_newVoice_50 : decode b_Mo_newVoice 50 = .ok (.ifCond .eq 23, 3) := by decide +kernel
theorem d_Mo_newVoice_53 : decode b_Mo_newVoice 53 = .ok (.aload_n 0, 1) := by decide +kernel
theorem d_Mo_newVoice_54 : decode b_Mo_newVoice 54 = .ok (.iload_n 3, 1) := by decide +kernel
theorem d_Mo_newVoice_55 : decode b_Mo_newVoice 55 = .ok (.bipush 6, 2) := by decide +kernel
theorem d_Mo_newVoice_57 : decode b_Mo_newVoice 57 = .ok (.iload_n 1, 1) := by decide +kernel
theorem d_Mo_newVoice_58 : decode b_Mo_newVoice 58 = .ok (.iload 4, 2) := by decide +kernel
theorem d_Mo_newVoice_60 : decode b_Mo_newVoice 60 = .ok (.invokestatic 157, 3) := by decide +kernel
theorem d_Mo_newVoice_63 : decode b_Mo_newVoice 63 = .ok (.iload 4, 2) := by decide +kernel
theorem d_Mo_newVoice_65 : decode b_Mo_newVoice 65 = .ok (.iload_n 2, 1) := by decide +kernel
theorem d_Mo_newVoice_66 : decode b_Mo_newVoice 66 = .ok (.invokestatic 157, 3) := by decide +kernel
theorem d_Mo_newVoice_69 : decode b_Mo_newVoice 69 = .ok (.invokevirtual 164, 3) := by decide +kernel
theorem d_Mo_newVoice_72 : decode b_Mo_newVoice 72 = .ok (.ireturn, 1) := by decide +kernel
theorem d_Mo_newVoice_73 : decode b_Mo_newVoice 73 = .ok (.iinc 4 1, 3) := by decide +kernel
theorem d_Mo_newVoice_76 : decode b_Mo_newVoice 76 = .ok (.goto (-56), 3) := by decide +kernel
theorem d_Mo_newVoice_79 : decode b_Mo_newVoice 79 = .ok (.iconst 0, 1) := by decide +kernel
theorem d_Mo_newVoice_80 : decode b_Mo_newVoice 80 = .ok (.ireturn, 1) := by decide +kernel
theorem d_Mo_goesOn_0 : decode b_Mo_goesOn 0 = .ok (.iconst 0, 1) := by decide +kernel
theorem d_Mo_goesOn_1 : decode b_Mo_goesOn 1 = .ok (.istore_n 1, 1) := by decide +kernel
theorem d_Mo_goesOn_2 : decode b_Mo_goesOn 2 = .ok (.aload_n 0, 1) := by decide +kernel
theorem d_Mo_goesOn_3 : decode b_Mo_goesOn 3 = .ok (.dup, 1) := by decide +kernel
theorem d_Mo_goesOn_4 : decode b_Mo_goesOn 4 = .ok (.getfield 144, 3) := by decide +kernel
theorem d_Mo_goesOn_7 : decode b_Mo_goesOn 7 = .ok (.iconst 1, 1) := by decide +kernel
theorem d_Mo_goesOn_8 : decode b_Mo_goesOn 8 = .ok (.iadd, 1) := by decide +kernel
theorem d_Mo_goesOn_9 : decode b_Mo_goesOn 9 = .ok (.putfield 144, 3) := by decide +kernel
theorem d_Mo_goesOn_12 : decode b_Mo_goesOn 12 = .ok (.iconst 0, 1) := by decide +kernel
theorem d_Mo_goesOn_13 : decode b_Mo_goesOn 13 = .ok (.istore_n 2, 1) := by decide +kernel
theorem d_Mo_goesOn_14 : decode b_Mo_goesOn 14 = .ok (.iload_n 2, 1) := by decide +kernel
theorem d_Mo_goesOn_15 : decode b_Mo_goesOn 15 = .ok (.bipush 6, 2) := by decide +kernel
theorem d_Mo_goesOn_17 : decode b_Mo_goesOn 17 = .ok (.if_icmp .ge 128, 3) := by decide +kernel
theorem d_Mo_goesOn_20 : decode b_Mo_goesOn 20 = .ok (.iconst 0, 1) := by decide +kernel
theorem d_Mo_goesOn_21 : decode b_Mo_goesOn 21 = .ok (.istore_n 3, 1) := by decide +kernel
theorem d_Mo_goesOn_22 : decode b_Mo_goesOn 22 = .ok (.iload_n 3, 1) := by decide +kernel
theorem d_Mo_goesOn_23 : decode b_Mo_goesOn 23 = .ok (.bipush 6, 2) := by decide +kernel
theorem d_Mo_goesOn_25 : decode b_Mo_goesOn 25 = .ok (.if_icmp .ge 114, 3) := by decide +kernel
theorem d_Mo_goesOn_28 : decode b_Mo_goesOn 28 = .ok (.iconst 0, 1) := by decide +kernel
theorem d_Mo_goesOn_29 : decode b_Mo_goesOn 29 = .ok (.istore 4, 2) := by decide +kernel
theorem d_Mo_goesOn_31 : decode b_Mo_goesOn 31 = .ok (.iload 4, 2) := by decide +kernel
theorem d_Mo_goesOn_33 : decode b_Mo_goesOn 33 = .ok (.iconst 4, 1) := by decide +kernel
theorem d_Mo_goesOn_34 : decode b_Mo_goesOn 34 = .ok (.if_icmp .ge 76, 3) := by decide +kernel
theorem d_Mo_goesOn_37 : decode b_Mo_goesOn 37 = .ok (.aload_n 0, 1) := by decide +kernel
theorem d_Mo_goesOn_38 : decode b_Mo_goesOn 38 = .ok (.iload_n 2, 1) := by decide +kernel
theorem d_Mo_goesOn_39 : decode b_Mo_goesOn 39 = .ok (.iload_n 3, 1) := by decide +kernel
theorem d_Mo_goesOn_40 : decode b_Mo_goesOn 40 = .ok (.iload 4, 2) := by decide +kernel
theorem d_Mo_goesOn_42 : decode b_Mo_goesOn 42 = .ok (.invokevirtual 171, 3) := by decide +kernel
theorem d_Mo_goesOn_45 : decode b_Mo_goesOn 45 = .ok (.istore 5, 2) := by decide +kernel
theorem d_Mo_goesOn_47 : decode b_Mo_goesOn 47 = .ok (.iload_n 1, 1) := by decide +kernel
theorem d_Mo_goesOn_48 : decode b_Mo_goesOn 48 = .ok (.ifCond .ne 8, 3) := by decide +kernel
theorem d_Mo_goesOn_51 : decode b_Mo_goesOn 51 = .ok (.iload 5, 2) := by decide +kernel
theorem d_Mo_goesOn_53 : decode b_Mo_goesOn 53 = .ok (.ifCond .eq 7, 3) := by decide +kernel
theorem d_Mo_goesOn_56 : decode b_Mo_goesOn 56 = .ok (.iconst 1, 1) := by decide +kernel
theorem d_Mo_goesOn_57 : decode b_Mo_goesOn 57 = .ok (.goto 4, 3) := by decide +kernel
theorem d_Mo_goesOn_60 : decode b_Mo_goesOn 60 = .ok (.iconst 0, 1) := by decide +kernel
theorem d_Mo_goesOn_61 : decode b_Mo_goesOn 61 = .ok (.istore_n 1, 1) := by decide +kernel
theorem d_Mo_goesOn_62 : decode b_Mo_goesOn 62 = .ok (.iconst 0, 1) := by decide +kernel
theorem d_Mo_goesOn_63 : decode b_Mo_goesOn 63 = .ok (.istore 6, 2) := by decide +kernel
theorem d_Mo_goesOn_65 : decode b_Mo_goesOn 65 = .ok (.iload 6, 2) := by decide +kernel
theorem d_Mo_goesOn_67 : decode b_Mo_goesOn 67 = .ok (.iconst 4, 1) := by decide +kernel
theorem d_Mo_goesOn_68 : decode b_Mo_goesOn 68 = .ok (.if_icmp .ge 36, 3) := by decide +kernel
theorem d_Mo_goesOn_71 : decode b_Mo_goesOn 71 = .ok (.aload_n 0, 1) := by decide +kernel
theorem d_Mo_goesOn_72 : decode b_Mo_goesOn 72 = .ok (.iload_n 2, 1) := by decide +kernel
theorem d_Mo_goesOn_73 : decode b_Mo_goesOn 73 = .ok (.iload_n 3, 1) := by decide +kernel
theorem d_Mo_goesOn_74 : decode b_Mo_goesOn 74 = .ok (.iload 4, 2) := by decide +kernel
theorem d_Mo_goesOn_76 : decode b_Mo_goesOn 76 = .ok (.iload 6, 2) := by decide +kernel
theorem d_Mo_goesOn_78 : decode b_Mo_goesOn 78 = .ok (.invokevirtual 174, 3) := by decide +kernel
theorem d_Mo_goesOn_81 : decode b_Mo_goesOn 81 = .ok (.istore 7, 2) := by decide +kernel
theorem d_Mo_goesOn_83 : decode b_Mo_goesOn 83 = .ok (.iload_n 1, 1) := by decide +kernel
theorem d_Mo_goesOn_84 : decode b_Mo_goesOn 84 = .ok (.ifCond .ne 8, 3) := by decide +kernel
theorem d_Mo_goesOn_87 : decode b_Mo_goesOn 87 = .ok (.iload 7, 2) := by decide +kernel
theorem d_Mo_goesOn_89 : decode b_Mo_goesOn 89 = .ok (.ifCond .eq 7, 3) := by decide +kernel
theorem d_Mo_goesOn_92 : decode b_Mo_goesOn 92 = .ok (.iconst 1, 1) := by decide +kernel
theorem d_Mo_goesOn_93 : decode b_Mo_goesOn 93 = .ok (.goto 4, 3) := by decide +kernel
theorem d_Mo_goesOn_96 : decode b_Mo_goesOn 96 = .ok (.iconst 0, 1) := by decide +kernel
theorem d_Mo_goesOn_97 : decode b_Mo_goesOn 97 = .ok (.istore_n 1, 1) := by decide +kernel
theorem d_Mo_goesOn_98 : decode b_Mo_goesOn 98 = .ok (.iinc 6 1, 3) := by decide +kernel
theorem d_Mo_goesOn_101 : decode b_Mo_goesOn 101 = .ok (.goto (-36), 3) := by decide +kernel
theorem d_Mo_goesOn_104 : decode b_Mo_goesOn 104 = .ok (.iinc 4 1, 3) := by decide +kernel
theorem d_Mo_goesOn_107 : decode b_Mo_goesOn 107 = .ok (.goto (-76), 3) := by decide +kernel
theorem d_Mo_goesOn_110 : decode b_Mo_goesOn 110 = .ok (.aload_n 0, 1) := by decide +kernel
theorem d_Mo_goesOn_111 : decode b_Mo_goesOn 111 = .ok (.iload_n 2, 1) := by decide +kernel
theorem d_Mo_goesOn_112 : decode b_Mo_goesOn 112 = .ok (.iload_n 3, 1) := by decide +kernel
theorem d_Mo_goesOn_113 : decode b_Mo_goesOn 113 = .ok (.invokevirtual 177, 3) := by decide +kernel
theorem d_Mo_goesOn_116 : decode b_Mo_goesOn 116 = .ok (.istore 4, 2) := by decide +kernel
theorem d_Mo_goesOn_118 : decode b_Mo_goesOn 118 = .ok (.iload_n 1, 1) := by decide +kernel
theorem d_Mo_goesOn_119 : decode b_Mo_goesOn 119 = .ok (.ifCond .ne 8, 3) := by decide +kernel
theorem d_Mo_goesOn_122 : decode b_Mo_goesOn 122 = .ok (.iload 4, 2) := by decide +kernel
theorem d_Mo_goesOn_124 : decode b_Mo_goesOn 124 = .ok (.ifCond .eq 7, 3) := by decide +kernel
theorem d_Mo_goesOn_127 : decode b_Mo_goesOn 127 = .ok (.iconst 1, 1) := by decide +kernel
theorem d_Mo_goesOn_128 : decode b_Mo_goesOn 128 = .ok (.goto 4, 3) := by decide +kernel
theorem d_Mo_goesOn_131 : decode b_Mo_goesOn 131 = .ok (.iconst 0, 1) := by decide +kernel
theorem d_Mo_goesOn_132 : decode b_Mo_goesOn 132 = .ok (.istore_n 1, 1) := by decide +kernel
theorem d_Mo_goesOn_133 : decode b_Mo_goesOn 133 = .ok (.iinc 3 1, 3) := by decide +kernel
theorem d_Mo_goesOn_136 : decode b_Mo_goesOn 136 = .ok (.goto (-114), 3) := by decide +kernel
theorem d_Mo_goesOn_139 : decode b_Mo_goesOn 139 = .ok (.iinc 2 1, 3) := by decide +kernel
theorem d_Mo_goesOn_142 : decode b_Mo_goesOn 142 = .ok (.goto (-128), 3) := by decide +kernel
theorem d_Mo_goesOn_145 : decode b_Mo_goesOn 145 = .ok (.iload_n 1, 1) := by decide +kernel
theorem d_Mo_goesOn_146 : decode b_Mo_goesOn 146 = .ok (.ireturn, 1) := by decide +kernel
theorem d_Mo_proof_0 : decode b_Mo_proof 0 = .ok (.aload_n 0, 1) := by decide +kernel
theorem d_Mo_proof_1 : decode b_Mo_proof 1 = .ok (.iload_n 1, 1) := by decide +kernel
theorem d_Mo_proof_2 : decode b_Mo_proof 2 = .ok (.putfield 150, 3) := by decide +kernel
theorem d_Mo_proof_5 : decode b_Mo_proof 5 = .ok (.iconst 0, 1) := by decide +kernel
theorem d_Mo_proof_6 : decode b_Mo_proof 6 = .ok (.istore_n 3, 1) := by decide +kernel
theorem d_Mo_proof_7 : decode b_Mo_proof 7 = .ok (.iload_n 3, 1) := by decide +kernel
theorem d_Mo_proof_8 : decode b_Mo_proof 8 = .ok (.sipush 756, 3) := by decide +kernel
theorem d_Mo_proof_11 : decode b_Mo_proof 11 = .ok (.if_icmp .ge 23, 3) := by decide +kernel
theorem d_Mo_proof_14 : decode b_Mo_proof 14 = .ok (.aload_n 0, 1) := by decide +kernel
theorem d_Mo_proof_15 : decode b_Mo_proof 15 = .ok (.getfield 71, 3) := by decide +kernel
theorem d_Mo_proof_18 : decode b_Mo_proof 18 = .ok (.iload_n 3, 1) := by decide +kernel
theorem d_Mo_proof_19 : decode b_Mo_proof 19 = .ok (.iconst 0, 1) := by decide +kernel
theorem d_Mo_proof_20 : decode b_Mo_proof 20 = .ok (.iastore, 1) := by decide +kernel
theorem d_Mo_proof_21 : decode b_Mo_proof 21 = .ok (.aload_n 0, 1) := by decide +kernel
theorem d_Mo_proof_22 : decode b_Mo_proof 22 = .ok (.getfield 83, 3) := by decide +kernel
theorem d_Mo_proof_25 : decode b_Mo_proof 25 = .ok (.iload_n 3, 1) := by decide +kernel
theorem d_Mo_proof_26 : decode b_Mo_proof 26 = .ok (.iconst (-1), 1) := by decide +kernel
theorem d_Mo_proof_27 : decode b_Mo_proof 27 = .ok (.iastore, 1) := by decide +kernel
theorem d_Mo_proof_28 : decode b_Mo_proof 28 = .ok (.iinc 3 1, 3) := by decide +kernel
theorem d_Mo_proof_31 : decode b_Mo_proof 31 = .ok (.goto (-24), 3) := by decide +kernel
theorem d_Mo_proof_34 : decode b_Mo_proof 34 = .ok (.aload_n 0, 1) := by decide +kernel
theorem d_Mo_proof_35 : decode b_Mo_proof 35 = .ok (.iconst 1, 1) := by decide +kernel
theorem d_Mo_proof_36 : decode b_Mo_proof 36 = .ok (.putfield 144, 3) := by decide +kernel
theorem d_Mo_proof_39 : decode b_Mo_proof 39 = .ok (.aload_n 0, 1) := by decide +kernel
theorem d_Mo_proof_40 : decode b_Mo_proof 40 = .ok (.invokevirtual 181, 3) := by decide +kernel
theorem d_Mo_proof_43 : decode b_Mo_proof 43 = .ok (.iconst 1, 1) := by decide +kernel
theorem d_Mo_proof_44 : decode b_Mo_proof 44 = .ok (.istore_n 3, 1) := by decide +kernel
theorem d_Mo_proof_45 : decode b_Mo_proof 45 = .ok (.iload_n 3, 1) := by decide +kernel
theorem d_Mo_proof_46 : decode b_Mo_proof 46 = .ok (.ifCond .eq 11, 3) := by decide +kernel
theorem d_Mo_proof_49 : decode b_Mo_proof 49 = .ok (.aload_n 0, 1) := by decide +kernel
theorem d_Mo_proof_50 : decode b_Mo_proof 50 = .ok (.invokevirtual 184, 3) := by decide +kernel
theorem d_Mo_proof_53 : decode b_Mo_proof 53 = .ok (.istore_n 3, 1) := by decide +kernel
theorem d_Mo_proof_54 : decode b_Mo_proof 54 = .ok (.goto (-9), 3) := by decide +kernel
theorem d_Mo_proof_57 : decode b_Mo_proof 57 = .ok (.aload_n 0, 1) := by decide +kernel
theorem d_Mo_proof_58 : decode b_Mo_proof 58 = .ok (.iconst 0, 1) := by decide +kernel
theorem d_Mo_proof_59 : decode b_Mo_proof 59 = .ok (.putfield 187, 3) := by decide +kernel
theorem d_Mo_proof_62 : decode b_Mo_proof 62 = .ok (.aload_n 0, 1) := by decide +kernel
theorem d_Mo_proof_63 : decode b_Mo_proof 63 = .ok (.getfield 71, 3) := by decide +kernel
theorem d_Mo_proof_66 : decode b_Mo_proof 66 = .ok (.iload_n 2, 1) := by decide +kernel
theorem d_Mo_proof_67 : decode b_Mo_proof 67 = .ok (.iaload, 1) := by decide +kernel
theorem d_Mo_proof_68 : decode b_Mo_proof 68 = .ok (.ifCond .ne 5, 3) := by decide +kernel
theorem d_Mo_proof_71 : decode b_Mo_proof 71 = .ok (.iconst 0, 1) := by decide +kernel
theorem d_Mo_proof_72 : decode b_Mo_proof 72 = .ok (.ireturn, 1) := by decide +kernel
theorem d_Mo_proof_73 : decode b_Mo_proof 73 = .ok (.iconst 1, 1) := by decide +kernel
theorem d_Mo_proof_74 : decode b_Mo_proof 74 = .ok (.istore 4, 2) := by decide +kernel
theorem d_Mo_proof_76 : decode b_Mo_proof 76 = .ok (.aload_n 0, 1) := by decide +kernel
theorem d_Mo_proof_77 : decode b_Mo_proof 77 = .ok (.getfield 86, 3) := by decide +kernel
theorem d_Mo_proof_80 : decode b_Mo_proof 80 = .ok (.iconst 0, 1) := by decide +kernel
theorem d_Mo_proof_81 : decode b_Mo_proof 81 = .ok (.iload_n 2, 1) := by decide +kernel
theorem d_Mo_proof_82 : decode b_Mo_proof 82 = .ok (.iastore, 1) := by decide +kernel
theorem d_Mo_proof_83 : decode b_Mo_proof 83 = .ok (.iload 4, 2) := by decide +kernel
theorem d_Mo_proof_85 : decode b_Mo_proof 85 = .ok (.ifCond .le 54, 3) := by decide +kernel
theorem d_Mo_proof_88 : decode b_Mo_proof 88 = .ok (.aload_n 0, 1) := by decide +kernel
theorem d_Mo_proof_89 : decode b_Mo_proof 89 = .ok (.getfield 86, 3) := by decide +kernel
theorem d_Mo_proof_92 : decode b_Mo_proof 92 = .ok (.iload 4, 2) := by decide +kernel
theorem d_Mo_proof_94 : decode b_Mo_proof 94 = .ok (.iconst 1, 1) := by decide +kernel
theorem d_Mo_proof_95 : decode b_Mo_proof 95 = .ok (.isub, 1) := by decide +kernel
theorem d_Mo_proof_96 : decode b_Mo_proof 96 = .ok (.iaload, 1) := by decide +kernel
theorem d_Mo_proof_97 : decode b_Mo_proof 97 = .ok (.istore 5, 2) := by decide +kernel
theorem d_Mo_proof_99 : decode b_Mo_proof 99 = .ok (.aload_n 0, 1) := by decide +kernel
theorem d_Mo_proof_100 : decode b_Mo_proof 100 = .ok (.iload 5, 2) := by decide +kernel
theorem d_Mo_proof_102 : decode b_Mo_proof 102 = .ok (.invokevirtual 190, 3) := by decide +kernel
theorem d_Mo_proof_105 : decode b_Mo_proof 105 = .ok (.istore 6, 2) := by decide +kernel
theorem d_Mo_proof_107 : decode b_Mo_proof 107 = .ok (.iload 6, 2) := by decide +kernel
theorem d_Mo_proof_109 : decode b_Mo_proof 109 = .ok (.ifCond .lt 18, 3) := by decide +kernel
theorem d_Mo_proof_112 : decode b_Mo_proof 112 = .ok (.aload_n 0, 1) := by decide +kernel
theorem d_Mo_proof_113 : decode b_Mo_proof 113 = .ok (.getfield 86, 3) := by decide +kernel
theorem d_Mo_proof_116 : decode b_Mo_proof 116 = .ok (.iload 4, 2) := by decide +kernel
theorem d_Mo_proof_118 : decode b_Mo_proof 118 = .ok (.iload 6, 2) := by decide +kernel
theorem d_Mo_proof_120 : decode b_Mo_proof 120 = .ok (.iastore, 1) := by decide +kernel
theorem d_Mo_proof_121 : decode b_Mo_proof 121 = .ok (.iinc 4 1, 3) := by decide +kernel
theorem d_Mo_proof_124 : decode b_Mo_proof 124 = .ok (.goto 12, 3) := by decide +kernel
theorem d_Mo_proof_127 : decode b_Mo_proof 127 = .ok (.iinc 4 (-1), 3) := by decide +kernel
theorem d_Mo_proof_130 : decode b_Mo_proof 130 = .ok (.aload_n 0, 1) := by decide +kernel
theorem d_Mo_proof_131 : decode b_Mo_proof 131 = .ok (.iload 5, 2) := by decide +kernel
theorem d_Mo_proof_133 : decode b_Mo_proof 133 = .ok (.invokevirtual 193, 3) := by decide +kernel
theorem d_Mo_proof_136 : decode b_Mo_proof 136 = .ok (.goto (-53), 3) := by decide +kernel
theorem d_Mo_proof_139 : decode b_Mo_proof 139 = .ok (.aload_n 0, 1) := by decide +kernel
theorem d_Mo_proof_140 : decode b_Mo_proof 140 = .ok (.getfield 187, 3) := by decide +kernel
theorem d_Mo_proof_143 : decode b_Mo_proof 143 = .ok (.ireturn, 1) := by decide +kernel
theorem d_Mo_needed_0 : decode b_Mo_needed 0 = .ok (.aload_n 0, 1) := by decide +kernel
theorem d_Mo_needed_1 : decode b_Mo_needed 1 = .ok (.getfield 74, 3) := by decide +kernel
theorem d_Mo_needed_4 : decode b_Mo_needed 4 = .ok (.iload_n 1, 1) := by decide +kernel
theorem d_Mo_needed_5 : decode b_Mo_needed 5 = .ok (.iaload, 1) := by decide +kernel
theorem d_Mo_needed_6 : decode b_Mo_needed 6 = .ok (.iconst 1, 1) := by decide +kernel
theorem d_Mo_needed_7 : decode b_Mo_needed 7 = .ok (.if_icmp .le 35, 3) := by decide +kernel
theorem d_Mo_needed_10 : decode b_Mo_needed 10 = .ok (.aload_n 0, 1) := by decide +kernel
theorem d_Mo_needed_11 : decode b_Mo_needed 11 = .ok (.getfield 74, 3) := by decide +kernel
theorem d_Mo_needed_14 : decode b_Mo_needed 14 = .ok (.iload_n 1, 1) := by decide +kernel
theorem d_Mo_needed_15 : decode b_Mo_needed 15 = .ok (.iaload, 1) := by decide +kernel
theorem d_Mo_needed_16 : decode b_Mo_needed 16 = .ok (.bipush 7, 2) := by decide +kernel
theorem d_Mo_needed_18 : decode b_Mo_needed 18 = .ok (.if_icmp .ge 24, 3) := by decide +kernel
theorem d_Mo_needed_21 : decode b_Mo_needed 21 = .ok (.aload_n 0, 1) := by decide +kernel
theorem d_Mo_needed_22 : decode b_Mo_needed 22 = .ok (.getfield 83, 3) := by decide +kernel
theorem d_Mo_needed_25 : decode b_Mo_needed 25 = .ok (.aload_n 0, 1) := by decide +kernel
theorem d_Mo_needed_26 : decode b_Mo_needed 26 = .ok (.getfield 77, 3) := by decide +kernel
theorem d_Mo_needed_29 : decode b_Mo_needed 29 = .ok (.iload_n 1, 1) := by decide +kernel
theorem d_Mo_needed_30 : decode b_Mo_needed 30 = .ok (.iaload, 1) := by decide +kernel
theorem d_Mo_needed_31 : decode b_Mo_needed 31 = .ok (.iaload, 1) := by decide +kernel
theorem d_Mo_needed_32 : decode b_Mo_needed 32 = .ok (.ifCond .ge 10, 3) := by decide +kernel
theorem d_Mo_needed_35 : decode b_Mo_needed 35 = .ok (.aload_n 0, 1) := by decide +kernel
theorem d_Mo_needed_36 : decode b_Mo_needed 36 = .ok (.getfield 77, 3) := by decide +kernel
theorem d_Mo_needed_39 : decode b_Mo_needed 39 = .ok (.iload_n 1, 1) := by decide +kernel
theorem d_Mo_needed_40 : decode b_Mo_needed 40 = .ok (.iaload, 1) := by decide +kernel
theorem d_Mo_needed_41 : decode b_Mo_needed 41 = .ok (.ireturn, 1) := by decide +kernel
theorem d_Mo_needed_42 : decode b_Mo_needed 42 = .ok (.aload_n 0, 1) := by decide +kernel
theorem d_Mo_needed_43 : decode b_Mo_needed 43 = .ok (.getfield 74, 3) := by decide +kernel
theorem d_Mo_needed_46 : decode b_Mo_needed 46 = .ok (.iload_n 1, 1) := by decide +kernel
theorem d_Mo_needed_47 : decode b_Mo_needed 47 = .ok (.iaload, 1) := by decide +kernel
theorem d_Mo_needed_48 : decode b_Mo_needed 48 = .ok (.iconst 1, 1) := by decide +kernel
theorem d_Mo_needed_49 : decode b_Mo_needed 49 = .ok (.if_icmp .le 26, 3) := by decide +kernel
theorem d_Mo_needed_52 : decode b_Mo_needed 52 = .ok (.aload_n 0, 1) := by decide +kernel
theorem d_Mo_needed_53 : decode b_Mo_needed 53 = .ok (.getfield 83, 3) := by decide +kernel
theorem d_Mo_needed_56 : decode b_Mo_needed 56 = .ok (.aload_n 0, 1) := by decide +kernel
theorem d_Mo_needed_57 : decode b_Mo_needed 57 = .ok (.getfield 80, 3) := by decide +kernel
theorem d_Mo_needed_60 : decode b_Mo_needed 60 = .ok (.iload_n 1, 1) := by decide +kernel
theorem d_Mo_needed_61 : decode b_Mo_needed 61 = .ok (.iaload, 1) := by decide +kernel
theorem d_Mo_needed_62 : decode b_Mo_needed 62 = .ok (.iaload, 1) := by decide +kernel
theorem d_Mo_needed_63 : decode b_Mo_needed 63 = .ok (.ifCond .ge 12, 3) := by decide +kernel
theorem d_Mo_needed_66 : decode b_Mo_needed 66 = .ok (.aload_n 0, 1) := by decide +kernel
theorem d_Mo_needed_67 : decode b_Mo_needed 67 = .ok (.getfield 80, 3) := by decide +kernel
theorem d_Mo_needed_70 : decode b_Mo_needed 70 = .ok (.iload_n 1, 1) := by decide +kernel
theorem d_Mo_needed_71 : decode b_Mo_needed 71 = .ok (.iaload, 1) := by decide +kernel
theorem d_Mo_needed_72 : decode b_Mo_needed 72 = .ok (.goto 4, 3) := by decide +kernel
theorem d_Mo_needed_75 : decode b_Mo_needed 75 = .ok (.iconst (-1), 1) := by decide +kernel
theorem d_Mo_needed_76 : decode b_Mo_needed 76 = .ok (.ireturn, 1) := by decide +kernel
theorem d_Mo_note_0 : decode b_Mo_note 0 = .ok (.aload_n 0, 1) := by decide +kernel
theorem d_Mo_note_1 : decode b_Mo_note 1 = .ok (.getfield 83, 3) := by decide +kernel
theorem d_Mo_note_4 : decode b_Mo_note 4 = .ok (.iload_n 1, 1) := by decide +kernel
theorem d_Mo_note_5 : decode b_Mo_note 5 = .ok (.iaload, 1) := by decide +kernel
theorem d_Mo_note_6 : decode b_Mo_note 6 = .ok (.ifCond .lt 4, 3) := by decide +kernel
theorem d_Mo_note_9 : decode b_Mo_note 9 = .ok (.return_, 1) := by decide +kernel
theorem d_Mo_note_10 : decode b_Mo_note 10 = .ok (.aload_n 0, 1) := by decide +kernel
theorem d_Mo_note_11 : decode b_Mo_note 11 = .ok (.getfield 83, 3) := by decide +kernel
theorem d_Mo_note_14 : decode b_Mo_note 14 = .ok (.iload_n 1, 1) := by decide +kernel
theorem d_Mo_note_15 : decode b_Mo_note 15 = .ok (.aload_n 0, 1) := by decide +kernel
theorem d_Mo_note_16 : decode b_Mo_note 16 = .ok (.getfield 187, 3) := by decide +kernel
theorem d_Mo_note_19 : decode b_Mo_note 19 = .ok (.iastore, 1) := by decide +kernel
theorem d_Mo_note_20 : decode b_Mo_note 20 = .ok (.aload_n 0, 1) := by decide +kernel
theorem d_Mo_note_21 : decode b_Mo_note 21 = .ok (.getfield 62, 3) := by decide +kernel
theorem d_Mo_note_24 : decode b_Mo_note 24 = .ok (.aload_n 0, 1) := by decide +kernel
theorem d_Mo_note_25 : decode b_Mo_note 25 = .ok (.getfield 187, 3) := by decide +kernel
theorem d_Mo_note_28 : decode b_Mo_note 28 = .ok (.aload_n 0, 1) := by decide +kernel
theorem d_Mo_note_29 : decode b_Mo_note 29 = .ok (.getfield 74, 3) := by decide +kernel
theorem d_Mo_note_32 : decode b_Mo_note 32 = .ok (.iload_n 1, 1) := by decide +kernel
theorem d_Mo_note_33 : decode b_Mo_note 33 = .ok (.iaload, 1) := by decide +kernel
theorem d_Mo_note_34 : decode b_Mo_note 34 = .ok (.iastore, 1) := by decide +kernel
theorem d_Mo_note_35 : decode b_Mo_note 35 = .ok (.aload_n 0, 1) := by decide +kernel
theorem d_Mo_note_36 : decode b_Mo_note 36 = .ok (.getfield 65, 3) := by decide +kernel
theorem d_Mo_note_39 : decode b_Mo_note 39 = .ok (.aload_n 0, 1) := by decide +kernel
theorem d_Mo_note_40 : decode b_Mo_note 40 = .ok (.getfield 187, 3) := by decide +kernel
theorem d_Mo_note_43 : decode b_Mo_note 43 = .ok (.aload_n 0, 1) := by decide +kernel
theorem d_Mo_note_44 : decode b_Mo_note 44 = .ok (.getfield 74, 3) := by decide +kernel
theorem d_Mo_note_47 : decode b_Mo_note 47 = .ok (.iload_n 1, 1) := by decide +kernel
theorem d_Mo_note_48 : decode b_Mo_note 48 = .ok (.iaload, 1) := by decide +kernel
theorem d_Mo_note_49 : decode b_Mo_note 49 = .ok (.iconst 1, 1) := by decide +kernel
theorem d_Mo_note_50 : decode b_Mo_note 50 = .ok (.if_icmp .eq 14, 3) := by decide +kernel
theorem d_Mo_note_53 : decode b_Mo_note 53 = .ok (.aload_n 0, 1) := by decide +kernel
theorem d_Mo_note_54 : decode b_Mo_note 54 = .ok (.getfield 74, 3) := by decide +kernel
theorem d_Mo_note_57 : decode b_Mo_note 57 = .ok (.iload_n 1, 1) := by decide +kernel
theorem d_Mo_note_58 : decode b_Mo_note 58 = .ok (.iaload, 1) := by decide +kernel
theorem d_Mo_note_59 : decode b_Mo_note 59 = .ok (.bipush 7, 2) := by decide +kernel
theorem d_Mo_note_61 : decode b_Mo_note 61 = .ok (.if_icmp .ne 12, 3) := by decide +kernel
theorem d_Mo_note_64 : decode b_Mo_note 64 = .ok (.aload_n 0, 1) := by decide +kernel
theorem d_Mo_note_65 : decode b_Mo_note 65 = .ok (.getfield 77, 3) := by decide +kernel
theorem d_Mo_note_68 : decode b_Mo_note 68 = .ok (.iload_n 1, 1) := by decide +kernel
theorem d_Mo_note_69 : decode b_Mo_note 69 = .ok (.iaload, 1) := by decide +kernel
theorem d_Mo_note_70 : decode b_Mo_note 70 = .ok (.goto 14, 3) := by decide +kernel
theorem d_Mo_note_73 : decode b_Mo_note 73 = .ok (.aload_n 0, 1) := by decide +kernel
theorem d_Mo_note_74 : decode b_Mo_note 74 = .ok (.getfield 83, 3) := by decide +kernel
theorem d_Mo_note_77 : decode b_Mo_note 77 = .ok (.aload_n 0, 1) := by decide +kernel
theorem d_Mo_note_78 : decode b_Mo_note 78 = .ok (.getfield 77, 3) := by decide +kernel
theorem d_Mo_note_81 : decode b_Mo_note 81 = .ok (.iload_n 1, 1) := by decide +kernel
theorem d_Mo_note_82 : decode b_Mo_note 82 = .ok (.iaload, 1) := by decide +kernel
theorem d_Mo_note_83 : decode b_Mo_note 83 = .ok (.iaload, 1) := by decide +kernel
theorem d_Mo_note_84 : decode b_Mo_note 84 = .ok (.iastore, 1) := by decide +kernel
theorem d_Mo_note_85 : decode b_Mo_note 85 = .ok (.aload_n 0, 1) := by decide +kernel
theorem d_Mo_note_86 : decode b_Mo_note 86 = .ok (.getfield 68, 3) := by decide +kernel
theorem d_Mo_note_89 : decode b_Mo_note 89 = .ok (.aload_n 0, 1) := by decide +kernel
theorem d_Mo_note_90 : decode b_Mo_note 90 = .ok (.getfield 187, 3) := by decide +kernel
theorem d_Mo_note_93 : decode b_Mo_note 93 = .ok (.aload_n 0, 1) := by decide +kernel
theorem d_Mo_note_94 : decode b_Mo_note 94 = .ok (.getfield 74, 3) := by decide +kernel
theorem d_Mo_note_97 : decode b_Mo_note 97 = .ok (.iload_n 1, 1) := by decide +kernel
theorem d_Mo_note_98 : decode b_Mo_note 98 = .ok (.iaload, 1) := by decide +kernel
theorem d_Mo_note_99 : decode b_Mo_note 99 = .ok (.iconst 1, 1) := by decide +kernel
theorem d_Mo_note_100 : decode b_Mo_note 100 = .ok (.if_icmp .ne 7, 3) := by decide +kernel
theorem d_Mo_note_103 : decode b_Mo_note 103 = .ok (.iconst 0, 1) := by decide +kernel
theorem d_Mo_note_104 : decode b_Mo_note 104 = .ok (.goto 14, 3) := by decide +kernel
theorem d_Mo_note_107 : decode b_Mo_note 107 = .ok (.aload_n 0, 1) := by decide +kernel
theorem d_Mo_note_108 : decode b_Mo_note 108 = .ok (.getfield 83, 3) := by decide +kernel
theorem d_Mo_note_111 : decode b_Mo_note 111 = .ok (.aload_n 0, 1) := by decide +kernel
theorem d_Mo_note_112 : decode b_Mo_note 112 = .ok (.getfield 80, 3) := by decide +kernel
theorem d_Mo_note_115 : decode b_Mo_note 115 = .ok (.iload_n 1, 1) := by decide +kernel
theorem d_Mo_note_116 : decode b_Mo_note 116 = .ok (.iaload, 1) := by decide +kernel
theorem d_Mo_note_117 : decode b_Mo_note 117 = .ok (.iaload, 1) := by decide +kernel
theorem d_Mo_note_118 : decode b_Mo_note 118 = .ok (.iastore, 1) := by decide +kernel
theorem d_Mo_note_119 : decode b_Mo_note 119 = .ok (.aload_n 0, 1) := by decide +kernel
theorem d_Mo_note_120 : decode b_Mo_note 120 = .ok (.dup, 1) := by decide +kernel
theorem d_Mo_note_121 : decode b_Mo_note 121 = .ok (.getfield 187, 3) := by decide +kernel
theorem d_Mo_note_124 : decode b_Mo_note 124 = .ok (.iconst 1, 1) := by decide +kernel
theorem d_Mo_note_125 : decode b_Mo_note 125 = .ok (.iadd, 1) := by decide +kernel
theorem d_Mo_note_126 : decode b_Mo_note 126 = .ok (.putfield 187, 3) := by decide +kernel
theorem d_Mo_note_129 : decode b_Mo_note 129 = .ok (.return_, 1) := by decide +kernel
theorem d_Mo_fact_0 : decode b_Mo_fact 0 = .ok (.iload_n 0, 1) := by decide +kernel
theorem d_Mo_fact_1 : decode b_Mo_fact 1 = .ok (.bipush 8, 2) := by decide +kernel
theorem d_Mo_fact_3 : decode b_Mo_fact 3 = .ok (.imul, 1) := by decide +kernel
theorem d_Mo_fact_4 : decode b_Mo_fact 4 = .ok (.iload_n 1, 1) := by decide +kernel
theorem d_Mo_fact_5 : decode b_Mo_fact 5 = .ok (.iadd, 1) := by decide +kernel
theorem d_Mo_fact_6 : decode b_Mo_fact 6 = .ok (.bipush 8, 2) := by decide +kernel
theorem d_Mo_fact_8 : decode b_Mo_fact 8 = .ok (.imul, 1) := by decide +kernel
theorem d_Mo_fact_9 : decode b_Mo_fact 9 = .ok (.iload_n 2, 1) := by decide +kernel
theorem d_Mo_fact_10 : decode b_Mo_fact 10 = .ok (.iadd, 1) := by decide +kernel
theorem d_Mo_fact_11 : decode b_Mo_fact 11 = .ok (.bipush 8, 2) := by decide +kernel
theorem d_Mo_fact_13 : decode b_Mo_fact 13 = .ok (.imul, 1) := by decide +kernel
theorem d_Mo_fact_14 : decode b_Mo_fact 14 = .ok (.iload_n 3, 1) := by decide +kernel
theorem d_Mo_fact_15 : decode b_Mo_fact 15 = .ok (.iadd, 1) := by decide +kernel
theorem d_Mo_fact_16 : decode b_Mo_fact 16 = .ok (.bipush 8, 2) := by decide +kernel
theorem d_Mo_fact_18 : decode b_Mo_fact 18 = .ok (.imul, 1) := by decide +kernel
theorem d_Mo_fact_19 : decode b_Mo_fact 19 = .ok (.iload 4, 2) := by decide +kernel
theorem d_Mo_fact_21 : decode b_Mo_fact 21 = .ok (.iadd, 1) := by decide +kernel
theorem d_Mo_fact_22 : decode b_Mo_fact 22 = .ok (.bipush 8, 2) := by decide +kernel
theorem d_Mo_fact_24 : decode b_Mo_fact 24 = .ok (.imul, 1) := by decide +kernel
theorem d_Mo_fact_25 : decode b_Mo_fact 25 = .ok (.iload 5, 2) := by decide +kernel
theorem d_Mo_fact_27 : decode b_Mo_fact 27 = .ok (.iadd, 1) := by decide +kernel
theorem d_Mo_fact_28 : decode b_Mo_fact 28 = .ok (.ireturn, 1) := by decide +kernel
theorem d_Mo_item_0 : decode b_Mo_item 0 = .ok (.iload_n 0, 1) := by decide +kernel
theorem d_Mo_item_1 : decode b_Mo_item 1 = .ok (.bipush 15, 2) := by decide +kernel
theorem d_Mo_item_3 : decode b_Mo_item 3 = .ok (.iconst 3, 1) := by decide +kernel
theorem d_Mo_item_4 : decode b_Mo_item 4 = .ok (.iload_n 1, 1) := by decide +kernel
theorem d_Mo_item_5 : decode b_Mo_item 5 = .ok (.imul, 1) := by decide +kernel
theorem d_Mo_item_6 : decode b_Mo_item 6 = .ok (.isub, 1) := by decide +kernel
theorem d_Mo_item_7 : decode b_Mo_item 7 = .ok (.ishr, 1) := by decide +kernel
theorem d_Mo_item_8 : decode b_Mo_item 8 = .ok (.bipush 7, 2) := by decide +kernel
theorem d_Mo_item_10 : decode b_Mo_item 10 = .ok (.iand, 1) := by decide +kernel
theorem d_Mo_item_11 : decode b_Mo_item 11 = .ok (.ireturn, 1) := by decide +kernel
theorem d_Mo_stepFact_0 : decode b_Mo_stepFact 0 = .ok (.iload_n 2, 1) := by decide +kernel
theorem d_Mo_stepFact_1 : decode b_Mo_stepFact 1 = .ok (.iconst 0, 1) := by decide +kernel
theorem d_Mo_stepFact_2 : decode b_Mo_stepFact 2 = .ok (.iload_n 1, 1) := by decide +kernel
theorem d_Mo_stepFact_3 : decode b_Mo_stepFact 3 = .ok (.iconst 1, 1) := by decide +kernel
theorem d_Mo_stepFact_4 : decode b_Mo_stepFact 4 = .ok (.isub, 1) := by decide +kernel
theorem d_Mo_stepFact_5 : decode b_Mo_stepFact 5 = .ok (.invokestatic 106, 3) := by decide +kernel
theorem d_Mo_stepFact_8 : decode b_Mo_stepFact 8 = .ok (.ifCond .eq 12, 3) := by decide +kernel
theorem d_Mo_stepFact_11 : decode b_Mo_stepFact 11 = .ok (.aload_n 0, 1) := by decide +kernel
theorem d_Mo_stepFact_12 : decode b_Mo_stepFact 12 = .ok (.getfield 59, 3) := by decide +kernel
theorem d_Mo_stepFact_15 : decode b_Mo_stepFact 15 = .ok (.iload_n 2, 1) := by decide +kernel
theorem d_Mo_stepFact_16 : decode b_Mo_stepFact 16 = .ok (.iaload, 1) := by decide +kernel
theorem d_Mo_stepFact_17 : decode b_Mo_stepFact 17 = .ok (.goto 4, 3) := by decide +kernel
theorem d_Mo_stepFact_20 : decode b_Mo_stepFact 20 = .ok (.iconst 0, 1) := by decide +kernel
theorem d_Mo_stepFact_21 : decode b_Mo_stepFact 21 = .ok (.ireturn, 1) := by decide +kernel
theorem d_Mo_proved_0 : decode b_Mo_proved 0 = .ok (.aload_n 0, 1) := by decide +kernel
theorem d_Mo_proved_1 : decode b_Mo_proved 1 = .ok (.getfield 53, 3) := by decide +kernel
theorem d_Mo_proved_4 : decode b_Mo_proved 4 = .ok (.iload_n 1, 1) := by decide +kernel
theorem d_Mo_proved_5 : decode b_Mo_proved 5 = .ok (.iaload, 1) := by decide +kernel
theorem d_Mo_proved_6 : decode b_Mo_proved 6 = .ok (.istore_n 2, 1) := by decide +kernel
theorem d_Mo_proved_7 : decode b_Mo_proved 7 = .ok (.aload_n 0, 1) := by decide +kernel
theorem d_Mo_proved_8 : decode b_Mo_proved 8 = .ok (.getfield 50, 3) := by decide +kernel
theorem d_Mo_proved_11 : decode b_Mo_proved 11 = .ok (.iload_n 1, 1) := by decide +kernel
theorem d_Mo_proved_12 : decode b_Mo_proved 12 = .ok (.iaload, 1) := by decide +kernel
theorem d_Mo_proved_13 : decode b_Mo_proved 13 = .ok (.istore_n 3, 1) := by decide +kernel
theorem d_Mo_proved_14 : decode b_Mo_proved 14 = .ok (.iload_n 3, 1) := by decide +kernel
theorem d_Mo_proved_15 : decode b_Mo_proved 15 = .ok (.iconst 1, 1) := by decide +kernel
theorem d_Mo_proved_16 : decode b_Mo_proved 16 = .ok (.if_icmp .ne 21, 3) := by decide +kernel
theorem d_Mo_proved_19 : decode b_Mo_proved 19 = .ok (.aload_n 0, 1) := by decide +kernel
theorem d_Mo_proved_20 : decode b_Mo_proved 20 = .ok (.iload_n 2, 1) := by decide +kernel
theorem d_Mo_proved_21 : decode b_Mo_proved 21 = .ok (.invokevirtual 147, 3) := by decide +kernel
theorem d_Mo_proved_24 : decode b_Mo_proved 24 = .ok (.ifCond .eq 11, 3) := by decide +kernel
theorem d_Mo_proved_27 : decode b_Mo_proved 27 = .ok (.aload_n 0, 1) := by decide +kernel
theorem d_Mo_proved_28 : decode b_Mo_proved 28 = .ok (.iload_n 2, 1) := by decide +kernel
theorem d_Mo_proved_29 : decode b_Mo_proved 29 = .ok (.invokevirtual 197, 3) := by decide +kernel
theorem d_Mo_proved_32 : decode b_Mo_proved 32 = .ok (.goto 4, 3) := by decide +kernel
theorem d_Mo_proved_35 : decode b_Mo_proved 35 = .ok (.iconst 0, 1) := by decide +kernel
theorem d_Mo_proved_36 : decode b_Mo_proved 36 = .ok (.ireturn, 1) := by decide +kernel
theorem d_Mo_proved_37 : decode b_Mo_proved 37 = .ok (.aload_n 0, 1) := by decide +kernel
theorem d_Mo_proved_38 : decode b_Mo_proved 38 = .ok (.iload_n 1, 1) := by decide +kernel
theorem d_Mo_proved_39 : decode b_Mo_proved 39 = .ok (.aload_n 0, 1) := by decide +kernel
theorem d_Mo_proved_40 : decode b_Mo_proved 40 = .ok (.getfield 56, 3) := by decide +kernel
theorem d_Mo_proved_43 : decode b_Mo_proved 43 = .ok (.iload_n 1, 1) := by decide +kernel
theorem d_Mo_proved_44 : decode b_Mo_proved 44 = .ok (.iaload, 1) := by decide +kernel
theorem d_Mo_proved_45 : decode b_Mo_proved 45 = .ok (.invokevirtual 200, 3) := by decide +kernel
theorem d_Mo_proved_48 : decode b_Mo_proved 48 = .ok (.istore 4, 2) := by decide +kernel
theorem d_Mo_proved_50 : decode b_Mo_proved 50 = .ok (.iload_n 3, 1) := by decide +kernel
theorem d_Mo_proved_51 : decode b_Mo_proved 51 = .ok (.bipush 7, 2) := by decide +kernel
theorem d_Mo_proved_53 : decode b_Mo_proved 53 = .ok (.if_icmp .ne 107, 3) := by decide +kernel
theorem d_Mo_proved_56 : decode b_Mo_proved 56 = .ok (.aload_n 0, 1) := by decide +kernel
theorem d_Mo_proved_57 : decode b_Mo_proved 57 = .ok (.iload_n 2, 1) := by decide +kernel
theorem d_Mo_proved_58 : decode b_Mo_proved 58 = .ok (.invokevirtual 147, 3) := by decide +kernel
theorem d_Mo_proved_61 : decode b_Mo_proved 61 = .ok (.ifCond .eq 57, 3) := by decide +kernel
theorem d_Mo_proved_64 : decode b_Mo_proved 64 = .ok (.aload_n 0, 1) := by decide +kernel
theorem d_Mo_proved_65 : decode b_Mo_proved 65 = .ok (.getfield 23, 3) := by decide +kernel
theorem d_Mo_proved_68 : decode b_Mo_proved 68 = .ok (.iload_n 2, 1) := by decide +kernel
theorem d_Mo_proved_69 : decode b_Mo_proved 69 = .ok (.iaload, 1) := by decide +kernel
theorem d_Mo_proved_70 : decode b_Mo_proved 70 = .ok (.iconst 3, 1) := by decide +kernel
theorem d_Mo_proved_71 : decode b_Mo_proved 71 = .ok (.if_icmp .ne 47, 3) := by decide +kernel
theorem d_Mo_proved_74 : decode b_Mo_proved 74 = .ok (.iload 4, 2) := by decide +kernel
theorem d_Mo_proved_76 : decode b_Mo_proved 76 = .ok (.iconst 0, 1) := by decide +kernel
theorem d_Mo_proved_77 : decode b_Mo_proved 77 = .ok (.invokestatic 203, 3) := by decide +kernel
theorem d_Mo_proved_80 : decode b_Mo_proved 80 = .ok (.iconst 1, 1) := by decide +kernel
theorem d_Mo_proved_81 : decode b_Mo_proved 81 = .ok (.if_icmp .ne 37, 3) := by decide +kernel
theorem d_Mo_proved_84 : decode b_Mo_proved 84 = .ok (.iload 4, 2) := by decide +kernel
theorem d_Mo_proved_86 : decode b_Mo_proved 86 = .ok (.iconst 1, 1) := by decide +kernel
theorem d_Mo_proved_87 : decode b_Mo_proved 87 = .ok (.invokestatic 203, 3) := by decide +kernel
theorem d_Mo_proved_90 : decode b_Mo_proved 90 = .ok (.aload_n 0, 1) := by decide +kernel
theorem d_Mo_proved_91 : decode b_Mo_proved 91 = .ok (.getfield 20, 3) := by decide +kernel
theorem d_Mo_proved_94 : decode b_Mo_proved 94 = .ok (.iload_n 2, 1) := by decide +kernel
theorem d_Mo_proved_95 : decode b_Mo_proved 95 = .ok (.iaload, 1) := by decide +kernel
theorem d_Mo_proved_96 : decode b_Mo_proved 96 = .ok (.if_icmp .ne 22, 3) := by decide +kernel
theorem d_Mo_proved_99 : decode b_Mo_proved 99 = .ok (.iload 4, 2) := by decide +kernel
theorem d_Mo_proved_101 : decode b_Mo_proved 101 = .ok (.iconst 3, 1) := by decide +kernel
theorem d_Mo_proved_102 : decode b_Mo_proved 102 = .ok (.invokestatic 203, 3) := by decide +kernel
theorem d_Mo_proved_105 : decode b_Mo_proved 105 = .ok (.aload_n 0, 1) := by decide +kernel
theorem d_Mo_proved_106 : decode b_Mo_proved 106 = .ok (.getfield 26, 3) := by decide +kernel
theorem d_Mo_proved_109 : decode b_Mo_proved 109 = .ok (.iload_n 2, 1) := by decide +kernel
theorem d_Mo_proved_110 : decode b_Mo_proved 110 = .ok (.iaload, 1) := by decide +kernel
theorem d_Mo_proved_111 : decode b_Mo_proved 111 = .ok (.if_icmp .ne 7, 3) := by decide +kernel
theorem d_Mo_proved_114 : decode b_Mo_proved 114 = .ok (.iconst 1, 1) := by decide +kernel
theorem d_Mo_proved_115 : decode b_Mo_proved 115 = .ok (.goto 4, 3) := by decide +kernel
theorem d_Mo_proved_118 : decode b_Mo_proved 118 = .ok (.iconst 0, 1) := by decide +kernel
theorem d_Mo_proved_119 : decode b_Mo_proved 119 = .ok (.istore 5, 2) := by decide +kernel
theorem d_Mo_proved_121 : decode b_Mo_proved 121 = .ok (.iload 5, 2) := by decide +kernel
theorem d_Mo_proved_123 : decode b_Mo_proved 123 = .ok (.ifCond .eq 35, 3) := by decide +kernel
theorem d_Mo_proved_126 : decode b_Mo_proved 126 = .ok (.iconst 1, 1) := by decide +kernel
theorem d_Mo_proved_127 : decode b_Mo_proved 127 = .ok (.iload 4, 2) := by decide +kernel
theorem d_Mo_proved_129 : decode b_Mo_proved 129 = .ok (.iconst 1, 1) := by decide +kernel
theorem d_Mo_proved_130 : decode b_Mo_proved 130 = .ok (.invokestatic 203, 3) := by decide +kernel
theorem d_Mo_proved_133 : decode b_Mo_proved 133 = .ok (.iload 4, 2) := by decide +kernel
theorem d_Mo_proved_135 : decode b_Mo_proved 135 = .ok (.iconst 2, 1) := by decide +kernel
theorem d_Mo_proved_136 : decode b_Mo_proved 136 = .ok (.invokestatic 203, 3) := by decide +kernel
theorem d_Mo_proved_139 : decode b_Mo_proved 139 = .ok (.aload_n 0, 1) := by decide +kernel
theorem d_Mo_proved_140 : decode b_Mo_proved 140 = .ok (.getfield 29, 3) := by decide +kernel
theorem d_Mo_proved_143 : decode b_Mo_proved 143 = .ok (.iload_n 2, 1) := by decide +kernel
theorem d_Mo_proved_144 : decode b_Mo_proved 144 = .ok (.iaload, 1) := by decide +kernel
theorem d_Mo_proved_145 : decode b_Mo_proved 145 = .ok (.iload 4, 2) := by decide +kernel
theorem d_Mo_proved_147 : decode b_Mo_proved 147 = .ok (.iconst 4, 1) := by decide +kernel
theorem d_Mo_proved_148 : decode b_Mo_proved 148 = .ok (.invokestatic 203, 3) := by decide +kernel
theorem d_Mo_proved_151 : decode b_Mo_proved 151 = .ok (.iconst 0, 1) := by decide +kernel
theorem d_Mo_proved_152 : decode b_Mo_proved 152 = .ok (.invokestatic 206, 3) := by decide +kernel
theorem d_Mo_proved_155 : decode b_Mo_proved 155 = .ok (.goto 4, 3) := by decide +kernel
theorem d_Mo_proved_158 : decode b_Mo_proved 158 = .ok (.iconst 0, 1) := by decide +kernel
theorem d_Mo_proved_159 : decode b_Mo_proved 159 = .ok (.ireturn, 1) := by decide +kernel
theorem d_Mo_proved_160 : decode b_Mo_proved 160 = .ok (.iload_n 3, 1) := by decide +kernel
theorem d_Mo_proved_161 : decode b_Mo_proved 161 = .ok (.iconst 2, 1) := by decide +kernel
theorem d_Mo_proved_162 : decode b_Mo_proved 162 = .ok (.bipush 6, 2) := by decide +kernel
theorem d_Mo_proved_164 : decode b_Mo_proved 164 = .ok (.invokestatic 106, 3) := by decide +kernel
theorem d_Mo_proved_167 : decode b_Mo_proved 167 = .ok (.ifCond .ne 5, 3) := by decide +kernel
theorem d_Mo_proved_170 : decode b_Mo_proved 170 = .ok (.iconst 0, 1) := by decide +kernel
theorem d_Mo_proved_171 : decode b_Mo_proved 171 = .ok (.ireturn, 1) := by decide +kernel
theorem d_Mo_proved_172 : decode b_Mo_proved 172 = .ok (.aload_n 0, 1) := by decide +kernel
theorem d_Mo_proved_173 : decode b_Mo_proved 173 = .ok (.iload_n 1, 1) := by decide +kernel
theorem d_Mo_proved_174 : decode b_Mo_proved 174 = .ok (.iload_n 2, 1) := by decide +kernel
theorem d_Mo_proved_175 : decode b_Mo_proved 175 = .ok (.invokevirtual 200, 3) := by decide +kernel
theorem d_Mo_proved_178 : decode b_Mo_proved 178 = .ok (.istore 5, 2) := by decide +kernel
theorem d_Mo_proved_180 : decode b_Mo_proved 180 = .ok (.iload 5, 2) := by decide +kernel
theorem d_Mo_proved_182 : decode b_Mo_proved 182 = .ok (.iconst 0, 1) := by decide +kernel
theorem d_Mo_proved_183 : decode b_Mo_proved 183 = .ok (.invokestatic 203, 3) := by decide +kernel
theorem d_Mo_proved_186 : decode b_Mo_proved 186 = .ok (.istore 6, 2) := by decide +kernel
theorem d_Mo_proved_188 : decode b_Mo_proved 188 = .ok (.iload 4, 2) := by decide +kernel
theorem d_Mo_proved_190 : decode b_Mo_proved 190 = .ok (.iconst 0, 1) := by decide +kernel
theorem d_Mo_proved_191 : decode b_Mo_proved 191 = .ok (.invokestatic 203, 3) := by decide +kernel
theorem d_Mo_proved_194 : decode b_Mo_proved 194 = .ok (.istore 7, 2) := by decide +kernel
theorem d_Mo_proved_196 : decode b_Mo_proved 196 = .ok (.iload 6, 2) := by decide +kernel
theorem d_Mo_proved_198 : decode b_Mo_proved 198 = .ok (.iconst 2, 1) := by decide +kernel
theorem d_Mo_proved_199 : decode b_Mo_proved 199 = .ok (.if_icmp .ne 22, 3) := by decide +kernel
theorem d_Mo_proved_202 : decode b_Mo_proved 202 = .ok (.iload 5, 2) := by decide +kernel
theorem d_Mo_proved_204 : decode b_Mo_proved 204 = .ok (.iconst 1, 1) := by decide +kernel
theorem d_Mo_proved_205 : decode b_Mo_proved 205 = .ok (.invokestatic 203, 3) := by decide +kernel
theorem d_Mo_proved_208 : decode b_Mo_proved 208 = .ok (.iload 4, 2) := by decide +kernel
theorem d_Mo_proved_210 : decode b_Mo_proved 210 = .ok (.iconst 1, 1) := by decide +kernel
theorem d_Mo_proved_211 : decode b_Mo_proved 211 = .ok (.invokestatic 203, 3) := by decide +kernel
theorem d_Mo_proved_214 : decode b_Mo_proved 214 = .ok (.if_icmp .ne 7, 3) := by decide +kernel
theorem d_Mo_proved_217 : decode b_Mo_proved 217 = .ok (.iconst 1, 1) := by decide +kernel
theorem d_Mo_proved_218 : decode b_Mo_proved 218 = .ok (.goto 4, 3) := by decide +kernel
theorem d_Mo_proved_221 : decode b_Mo_proved 221 = .ok (.iconst 0, 1) := by decide +kernel
theorem d_Mo_proved_222 : decode b_Mo_proved 222 = .ok (.istore 8, 2) := by decide +kernel
theorem d_Mo_proved_224 : decode b_Mo_proved 224 = .ok (.iload 6, 2) := by decide +kernel
theorem d_Mo_proved_226 : decode b_Mo_proved 226 = .ok (.iconst 3, 1) := by decide +kernel
theorem d_Mo_proved_227 : decode b_Mo_proved 227 = .ok (.if_icmp .ne 52, 3) := by decide +kernel
theorem d_Mo_proved_230 : decode b_Mo_proved 230 = .ok (.iload 5, 2) := by decide +kernel
theorem d_Mo_proved_232 : decode b_Mo_proved 232 = .ok (.iconst 2, 1) := by decide +kernel
theorem d_Mo_proved_233 : decode b_Mo_proved 233 = .ok (.invokestatic 203, 3) := by decide +kernel
theorem d_Mo_proved_236 : decode b_Mo_proved 236 = .ok (.iload 4, 2) := by decide +kernel
theorem d_Mo_proved_238 : decode b_Mo_proved 238 = .ok (.iconst 1, 1) := by decide +kernel
theorem d_Mo_proved_239 : decode b_Mo_proved 239 = .ok (.invokestatic 203, 3) := by decide +kernel
theorem d_Mo_proved_242 : decode b_Mo_proved 242 = .ok (.if_icmp .ne 37, 3) := by decide +kernel
theorem d_Mo_proved_245 : decode b_Mo_proved 245 = .ok (.iload 5, 2) := by decide +kernel
theorem d_Mo_proved_247 : decode b_Mo_proved 247 = .ok (.iconst 3, 1) := by decide +kernel
theorem d_Mo_proved_248 : decode b_Mo_proved 248 = .ok (.invokestatic 203, 3) := by decide +kernel
theorem d_Mo_proved_251 : decode b_Mo_proved 251 = .ok (.iload 4, 2) := by decide +kernel
theorem d_Mo_proved_253 : decode b_Mo_proved 253 = .ok (.iconst 3, 1) := by decide +kernel
theorem d_Mo_proved_254 : decode b_Mo_proved 254 = .ok (.invokestatic 203, 3) := by decide +kernel
theorem d_Mo_proved_257 : decode b_Mo_proved 257 = .ok (.if_icmp .ne 22, 3) := by decide +kernel
theorem d_Mo_proved_260 : decode b_Mo_proved 260 = .ok (.iload 5, 2) := by decide +kernel
theorem d_Mo_proved_262 : decode b_Mo_proved 262 = .ok (.iconst 4, 1) := by decide +kernel
theorem d_Mo_proved_263 : decode b_Mo_proved 263 = .ok (.invokestatic 203, 3) := by decide +kernel
theorem d_Mo_proved_266 : decode b_Mo_proved 266 = .ok (.iload 4, 2) := by decide +kernel
theorem d_Mo_proved_268 : decode b_Mo_proved 268 = .ok (.iconst 4, 1) := by decide +kernel
theorem d_Mo_proved_269 : decode b_Mo_proved 269 = .ok (.invokestatic 203, 3) := by decide +kernel
theorem d_Mo_proved_272 : decode b_Mo_proved 272 = .ok (.if_icmp .ne 7, 3) := by decide +kernel
theorem d_Mo_proved_275 : decode b_Mo_proved 275 = .ok (.iconst 1, 1) := by decide +kernel
theorem d_Mo_proved_276 : decode b_Mo_proved 276 = .ok (.goto 4, 3) := by decide +kernel
theorem d_Mo_proved_279 : decode b_Mo_proved 279 = .ok (.iconst 0, 1) := by decide +kernel
theorem d_Mo_proved_280 : decode b_Mo_proved 280 = .ok (.istore 9, 2) := by decide +kernel
theorem d_Mo_proved_282 : decode b_Mo_proved 282 = .ok (.iload_n 3, 1) := by decide +kernel
theorem d_Mo_proved_283 : decode b_Mo_proved 283 = .ok (.iconst 2, 1) := by decide +kernel
theorem d_Mo_proved_284 : decode b_Mo_proved 284 = .ok (.if_icmp .ne 48, 3) := by decide +kernel
theorem d_Mo_proved_287 : decode b_Mo_proved 287 = .ok (.iload 8, 2) := by decide +kernel
theorem d_Mo_proved_289 : decode b_Mo_proved 289 = .ok (.ifCond .eq 41, 3) := by decide +kernel
theorem d_Mo_proved_292 : decode b_Mo_proved 292 = .ok (.iload 7, 2) := by decide +kernel
theorem d_Mo_proved_294 : decode b_Mo_proved 294 = .ok (.iconst 1, 1) := by decide +kernel
theorem d_Mo_proved_295 : decode b_Mo_proved 295 = .ok (.if_icmp .ne 35, 3) := by decide +kernel
theorem d_Mo_proved_298 : decode b_Mo_proved 298 = .ok (.iconst 1, 1) := by decide +kernel
theorem d_Mo_proved_299 : decode b_Mo_proved 299 = .ok (.iload 5, 2) := by decide +kernel
theorem d_Mo_proved_301 : decode b_Mo_proved 301 = .ok (.iconst 2, 1) := by decide +kernel
theorem d_Mo_proved_302 : decode b_Mo_proved 302 = .ok (.invokestatic 203, 3) := by decide +kernel
theorem d_Mo_proved_305 : decode b_Mo_proved 305 = .ok (.iload 4, 2) := by decide +kernel
theorem d_Mo_proved_307 : decode b_Mo_proved 307 = .ok (.iconst 2, 1) := by decide +kernel
theorem d_Mo_proved_308 : decode b_Mo_proved 308 = .ok (.invokestatic 203, 3) := by decide +kernel
theorem d_Mo_proved_311 : decode b_Mo_proved 311 = .ok (.iload 4, 2) := by decide +kernel
theorem d_Mo_proved_313 : decode b_Mo_proved 313 = .ok (.iconst 3, 1) := by decide +kernel
theorem d_Mo_proved_314 : decode b_Mo_proved 314 = .ok (.invokestatic 203, 3) := by decide +kernel
theorem d_Mo_proved_317 : decode b_Mo_proved 317 = .ok (.iload 4, 2) := by decide +kernel
theorem d_Mo_proved_319 : decode b_Mo_proved 319 = .ok (.iconst 4, 1) := by decide +kernel
theorem d_Mo_proved_320 : decode b_Mo_proved 320 = .ok (.invokestatic 203, 3) := by decide +kernel
theorem d_Mo_proved_323 : decode b_Mo_proved 323 = .ok (.iconst 0, 1) := by decide +kernel
theorem d_Mo_proved_324 : decode b_Mo_proved 324 = .ok (.invokestatic 206, 3) := by decide +kernel
theorem d_Mo_proved_327 : decode b_Mo_proved 327 = .ok (.goto 4, 3) := by decide +kernel
theorem d_Mo_proved_330 : decode b_Mo_proved 330 = .ok (.iconst 0, 1) := by decide +kernel
theorem d_Mo_proved_331 : decode b_Mo_proved 331 = .ok (.ireturn, 1) := by decide +kernel
theorem d_Mo_proved_332 : decode b_Mo_proved 332 = .ok (.iload_n 3, 1) := by decide +kernel
theorem d_Mo_proved_333 : decode b_Mo_proved 333 = .ok (.iconst 3, 1) := by decide +kernel
theorem d_Mo_proved_334 : decode b_Mo_proved 334 = .ok (.if_icmp .ne 48, 3) := by decide +kernel
theorem d_Mo_proved_337 : decode b_Mo_proved 337 = .ok (.iload 9, 2) := by decide +kernel
theorem d_Mo_proved_339 : decode b_Mo_proved 339 = .ok (.ifCond .eq 41, 3) := by decide +kernel
theorem d_Mo_proved_342 : decode b_Mo_proved 342 = .ok (.iload 7, 2) := by decide +kernel
theorem d_Mo_proved_344 : decode b_Mo_proved 344 = .ok (.iconst 1, 1) := by decide +kernel
theorem d_Mo_proved_345 : decode b_Mo_proved 345 = .ok (.if_icmp .ne 35, 3) := by decide +kernel
theorem d_Mo_proved_348 : decode b_Mo_proved 348 = .ok (.iconst 1, 1) := by decide +kernel
theorem d_Mo_proved_349 : decode b_Mo_proved 349 = .ok (.iload 5, 2) := by decide +kernel
theorem d_Mo_proved_351 : decode b_Mo_proved 351 = .ok (.iconst 1, 1) := by decide +kernel
theorem d_Mo_proved_352 : decode b_Mo_proved 352 = .ok (.invokestatic 203, 3) := by decide +kernel
theorem d_Mo_proved_355 : decode b_Mo_proved 355 = .ok (.iload 4, 2) := by decide +kernel
theorem d_Mo_proved_357 : decode b_Mo_proved 357 = .ok (.iconst 2, 1) := by decide +kernel
theorem d_Mo_proved_358 : decode b_Mo_proved 358 = .ok (.invokestatic 203, 3) := by decide +kernel
theorem d_Mo_proved_361 : decode b_Mo_proved 361 = .ok (.iload 4, 2) := by decide +kernel
theorem d_Mo_proved_363 : decode b_Mo_proved 363 = .ok (.iconst 3, 1) := by decide +kernel
theorem d_Mo_proved_364 : decode b_Mo_proved 364 = .ok (.invokestatic 203, 3) := by decide +kernel
theorem d_Mo_proved_367 : decode b_Mo_proved 367 = .ok (.iload 4, 2) := by decide +kernel
theorem d_Mo_proved_369 : decode b_Mo_proved 369 = .ok (.iconst 4, 1) := by decide +kernel
theorem d_Mo_proved_370 : decode b_Mo_proved 370 = .ok (.invokestatic 203, 3) := by decide +kernel
theorem d_Mo_proved_373 : decode b_Mo_proved 373 = .ok (.iconst 0, 1) := by decide +kernel
theorem d_Mo_proved_374 : decode b_Mo_proved 374 = .ok (.invokestatic 206, 3) := by decide +kernel
theorem d_Mo_proved_377 : decode b_Mo_proved 377 = .ok (.goto 4, 3) := by decide +kernel
theorem d_Mo_proved_380 : decode b_Mo_proved 380 = .ok (.iconst 0, 1) := by decide +kernel
theorem d_Mo_proved_381 : decode b_Mo_proved 381 = .ok (.ireturn, 1) := by decide +kernel
theorem d_Mo_proved_382 : decode b_Mo_proved 382 = .ok (.iload_n 3, 1) := by decide +kernel
theorem d_Mo_proved_383 : decode b_Mo_proved 383 = .ok (.iconst 5, 1) := by decide +kernel
theorem d_Mo_proved_384 : decode b_Mo_proved 384 = .ok (.if_icmp .ne 53, 3) := by decide +kernel
theorem d_Mo_proved_387 : decode b_Mo_proved 387 = .ok (.iload 8, 2) := by decide +kernel
theorem d_Mo_proved_389 : decode b_Mo_proved 389 = .ok (.ifCond .eq 46, 3) := by decide +kernel
theorem d_Mo_proved_392 : decode b_Mo_proved 392 = .ok (.iload 7, 2) := by decide +kernel
theorem d_Mo_proved_394 : decode b_Mo_proved 394 = .ok (.iconst 3, 1) := by decide +kernel
theorem d_Mo_proved_395 : decode b_Mo_proved 395 = .ok (.if_icmp .ne 40, 3) := by decide +kernel
theorem d_Mo_proved_398 : decode b_Mo_proved 398 = .ok (.iconst 3, 1) := by decide +kernel
theorem d_Mo_proved_399 : decode b_Mo_proved 399 = .ok (.iload 5, 2) := by decide +kernel
theorem d_Mo_proved_401 : decode b_Mo_proved 401 = .ok (.iconst 2, 1) := by decide +kernel
theorem d_Mo_proved_402 : decode b_Mo_proved 402 = .ok (.invokestatic 203, 3) := by decide +kernel
theorem d_Mo_proved_405 : decode b_Mo_proved 405 = .ok (.iload 4, 2) := by decide +kernel
theorem d_Mo_proved_407 : decode b_Mo_proved 407 = .ok (.iconst 2, 1) := by decide +kernel
theorem d_Mo_proved_408 : decode b_Mo_proved 408 = .ok (.invokestatic 203, 3) := by decide +kernel
theorem d_Mo_proved_411 : decode b_Mo_proved 411 = .ok (.iload 4, 2) := by decide +kernel
theorem d_Mo_proved_413 : decode b_Mo_proved 413 = .ok (.iconst 3, 1) := by decide +kernel
theorem d_Mo_proved_414 : decode b_Mo_proved 414 = .ok (.invokestatic 203, 3) := by decide +kernel
theorem d_Mo_proved_417 : decode b_Mo_proved 417 = .ok (.iload 4, 2) := by decide +kernel
theorem d_Mo_proved_419 : decode b_Mo_proved 419 = .ok (.iconst 4, 1) := by decide +kernel
theorem d_Mo_proved_420 : decode b_Mo_proved 420 = .ok (.invokestatic 203, 3) := by decide +kernel
theorem d_Mo_proved_423 : decode b_Mo_proved 423 = .ok (.iload 4, 2) := by decide +kernel
theorem d_Mo_proved_425 : decode b_Mo_proved 425 = .ok (.iconst 5, 1) := by decide +kernel
theorem d_Mo_proved_426 : decode b_Mo_proved 426 = .ok (.invokestatic 203, 3) := by decide +kernel
theorem d_Mo_proved_429 : decode b_Mo_proved 429 = .ok (.invokestatic 206, 3) := by decide +kernel
theorem d_Mo_proved_432 : decode b_Mo_proved 432 = .ok (.goto 4, 3) := by decide +kernel
theorem d_Mo_proved_435 : decode b_Mo_proved 435 = .ok (.iconst 0, 1) := by decide +kernel
theorem d_Mo_proved_436 : decode b_Mo_proved 436 = .ok (.ireturn, 1) := by decide +kernel
theorem d_Mo_proved_437 : decode b_Mo_proved 437 = .ok (.iload_n 3, 1) := by decide +kernel
theorem d_Mo_proved_438 : decode b_Mo_proved 438 = .ok (.bipush 6, 2) := by decide +kernel
theorem d_Mo_proved_440 : decode b_Mo_proved 440 = .ok (.if_icmp .ne 54, 3) := by decide +kernel
theorem d_Mo_proved_443 : decode b_Mo_proved 443 = .ok (.iload 6, 2) := by decide +kernel
theorem d_Mo_proved_445 : decode b_Mo_proved 445 = .ok (.iconst 2, 1) := by decide +kernel
theorem d_Mo_proved_446 : decode b_Mo_proved 446 = .ok (.if_icmp .ne 46, 3) := by decide +kernel
theorem d_Mo_proved_449 : decode b_Mo_proved 449 = .ok (.iload 7, 2) := by decide +kernel
theorem d_Mo_proved_451 : decode b_Mo_proved 451 = .ok (.iconst 2, 1) := by decide +kernel
theorem d_Mo_proved_452 : decode b_Mo_proved 452 = .ok (.if_icmp .ne 40, 3) := by decide +kernel
theorem d_Mo_proved_455 : decode b_Mo_proved 455 = .ok (.iload 5, 2) := by decide +kernel
theorem d_Mo_proved_457 : decode b_Mo_proved 457 = .ok (.iconst 2, 1) := by decide +kernel
theorem d_Mo_proved_458 : decode b_Mo_proved 458 = .ok (.invokestatic 203, 3) := by decide +kernel
theorem d_Mo_proved_461 : decode b_Mo_proved 461 = .ok (.iload 4, 2) := by decide +kernel
theorem d_Mo_proved_463 : decode b_Mo_proved 463 = .ok (.iconst 1, 1) := by decide +kernel
theorem d_Mo_proved_464 : decode b_Mo_proved 464 = .ok (.invokestatic 203, 3) := by decide +kernel
theorem d_Mo_proved_467 : decode b_Mo_proved 467 = .ok (.if_icmp .ne 25, 3) := by decide +kernel
theorem d_Mo_proved_470 : decode b_Mo_proved 470 = .ok (.iconst 2, 1) := by decide +kernel
theorem d_Mo_proved_471 : decode b_Mo_proved 471 = .ok (.iload 5, 2) := by decide +kernel
theorem d_Mo_proved_473 : decode b_Mo_proved 473 = .ok (.iconst 1, 1) := by decide +kernel
theorem d_Mo_proved_474 : decode b_Mo_proved 474 = .ok (.invokestatic 203, 3) := by decide +kernel
theorem d_Mo_proved_477 : decode b_Mo_proved 477 = .ok (.iload 4, 2) := by decide +kernel
theorem d_Mo_proved_479 : decode b_Mo_proved 479 = .ok (.iconst 2, 1) := by decide +kernel
theorem d_Mo_proved_480 : decode b_Mo_proved 480 = .ok (.invokestatic 203, 3) := by decide +kernel
theorem d_Mo_proved_483 : decode b_Mo_proved 483 = .ok (.iconst 0, 1) := by decide +kernel
theorem d_Mo_proved_484 : decode b_Mo_proved 484 = .ok (.iconst 0, 1) := by decide +kernel
theorem d_Mo_proved_485 : decode b_Mo_proved 485 = .ok (.iconst 0, 1) := by decide +kernel
theorem d_Mo_proved_486 : decode b_Mo_proved 486 = .ok (.invokestatic 206, 3) := by decide +kernel
theorem d_Mo_proved_489 : decode b_Mo_proved 489 = .ok (.goto 4, 3) := by decide +kernel
theorem d_Mo_proved_492 : decode b_Mo_proved 492 = .ok (.iconst 0, 1) := by decide +kernel
theorem d_Mo_proved_493 : decode b_Mo_proved 493 = .ok (.ireturn, 1) := by decide +kernel
theorem d_Mo_proved_494 : decode b_Mo_proved 494 = .ok (.iload 5, 2) := by decide +kernel
theorem d_Mo_proved_496 : decode b_Mo_proved 496 = .ok (.iconst 5, 1) := by decide +kernel
theorem d_Mo_proved_497 : decode b_Mo_proved 497 = .ok (.invokestatic 203, 3) := by decide +kernel
theorem d_Mo_proved_500 : decode b_Mo_proved 500 = .ok (.iconst 1, 1) := by decide +kernel
theorem d_Mo_proved_501 : decode b_Mo_proved 501 = .ok (.isub, 1) := by decide +kernel
theorem d_Mo_proved_502 : decode b_Mo_proved 502 = .ok (.istore 10, 2) := by decide +kernel
theorem d_Mo_proved_504 : decode b_Mo_proved 504 = .ok (.iload 4, 2) := by decide +kernel
theorem d_Mo_proved_506 : decode b_Mo_proved 506 = .ok (.iconst 5, 1) := by decide +kernel
theorem d_Mo_proved_507 : decode b_Mo_proved 507 = .ok (.invokestatic 203, 3) := by decide +kernel
theorem d_Mo_proved_510 : decode b_Mo_proved 510 = .ok (.istore 11, 2) := by decide +kernel
theorem d_Mo_proved_512 : decode b_Mo_proved 512 = .ok (.iload 9, 2) := by decide +kernel
theorem d_Mo_proved_514 : decode b_Mo_proved 514 = .ok (.ifCond .eq 59, 3) := by decide +kernel
theorem d_Mo_proved_517 : decode b_Mo_proved 517 = .ok (.iload 7, 2) := by decide +kernel
theorem d_Mo_proved_519 : decode b_Mo_proved 519 = .ok (.iconst 3, 1) := by decide +kernel
theorem d_Mo_proved_520 : decode b_Mo_proved 520 = .ok (.if_icmp .ne 53, 3) := by decide +kernel
theorem d_Mo_proved_523 : decode b_Mo_proved 523 = .ok (.iload 10, 2) := by decide +kernel
theorem d_Mo_proved_525 : decode b_Mo_proved 525 = .ok (.ifCond .lt 48, 3) := by decide +kernel
theorem d_Mo_proved_528 : decode b_Mo_proved 528 = .ok (.iconst 3, 1) := by decide +kernel
theorem d_Mo_proved_529 : decode b_Mo_proved 529 = .ok (.iload 5, 2) := by decide +kernel
theorem d_Mo_proved_531 : decode b_Mo_proved 531 = .ok (.iconst 1, 1) := by decide +kernel
theorem d_Mo_proved_532 : decode b_Mo_proved 532 = .ok (.invokestatic 203, 3) := by decide +kernel
theorem d_Mo_proved_535 : decode b_Mo_proved 535 = .ok (.iload 4, 2) := by decide +kernel
theorem d_Mo_proved_537 : decode b_Mo_proved 537 = .ok (.iconst 2, 1) := by decide +kernel
theorem d_Mo_proved_538 : decode b_Mo_proved 538 = .ok (.invokestatic 203, 3) := by decide +kernel
theorem d_Mo_proved_541 : decode b_Mo_proved 541 = .ok (.iload 4, 2) := by decide +kernel
theorem d_Mo_proved_543 : decode b_Mo_proved 543 = .ok (.iconst 3, 1) := by decide +kernel
theorem d_Mo_proved_544 : decode b_Mo_proved 544 = .ok (.invokestatic 203, 3) := by decide +kernel
theorem d_Mo_proved_547 : decode b_Mo_proved 547 = .ok (.iload 4, 2) := by decide +kernel
theorem d_Mo_proved_549 : decode b_Mo_proved 549 = .ok (.iconst 4, 1) := by decide +kernel
theorem d_Mo_proved_550 : decode b_Mo_proved 550 = .ok (.invokestatic 203, 3) := by decide +kernel
theorem d_Mo_proved_553 : decode b_Mo_proved 553 = .ok (.iload 10, 2) := by decide +kernel
theorem d_Mo_proved_555 : decode b_Mo_proved 555 = .ok (.iload 11, 2) := by decide +kernel
theorem d_Mo_proved_557 : decode b_Mo_proved 557 = .ok (.if_icmp .ge 8, 3) := by decide +kernel
theorem d_Mo_proved_560 : decode b_Mo_proved 560 = .ok (.iload 10, 2) := by decide +kernel
theorem d_Mo_proved_562 : decode b_Mo_proved 562 = .ok (.goto 5, 3) := by decide +kernel
theorem d_Mo_proved_565 : decode b_Mo_proved 565 = .ok (.iload 11, 2) := by decide +kernel
theorem d_Mo_proved_567 : decode b_Mo_proved 567 = .ok (.invokestatic 206, 3) := by decide +kernel
theorem d_Mo_proved_570 : decode b_Mo_proved 570 = .ok (.goto 4, 3) := by decide +kernel
theorem d_Mo_proved_573 : decode b_Mo_proved 573 = .ok (.iconst 0, 1) := by decide +kernel
theorem d_Mo_proved_574 : decode b_Mo_proved 574 = .ok (.ireturn, 1) := by decide +kernel
theorem d_Mo_spoken_0 : decode b_Mo_spoken 0 = .ok (.aload_n 0, 1) := by decide +kernel
theorem d_Mo_spoken_1 : decode b_Mo_spoken 1 = .ok (.getfield 23, 3) := by decide +kernel
theorem d_Mo_spoken_4 : decode b_Mo_spoken 4 = .ok (.iload_n 1, 1) := by decide +kernel
theorem d_Mo_spoken_5 : decode b_Mo_spoken 5 = .ok (.iaload, 1) := by decide +kernel
theorem d_Mo_spoken_6 : decode b_Mo_spoken 6 = .ok (.ifCond .ne 33, 3) := by decide +kernel
theorem d_Mo_spoken_9 : decode b_Mo_spoken 9 = .ok (.iconst 1, 1) := by decide +kernel
theorem d_Mo_spoken_10 : decode b_Mo_spoken 10 = .ok (.aload_n 0, 1) := by decide +kernel
theorem d_Mo_spoken_11 : decode b_Mo_spoken 11 = .ok (.getfield 20, 3) := by decide +kernel
theorem d_Mo_spoken_14 : decode b_Mo_spoken 14 = .ok (.iload_n 1, 1) := by decide +kernel
theorem d_Mo_spoken_15 : decode b_Mo_spoken 15 = .ok (.iaload, 1) := by decide +kernel
theorem d_Mo_spoken_16 : decode b_Mo_spoken 16 = .ok (.aload_n 0, 1) := by decide +kernel
theorem d_Mo_spoken_17 : decode b_Mo_spoken 17 = .ok (.getfield 26, 3) := by decide +kernel
theorem d_Mo_spoken_20 : decode b_Mo_spoken 20 = .ok (.iload_n 1, 1) := by decide +kernel
theorem d_Mo_spoken_21 : decode b_Mo_spoken 21 = .ok (.iaload, 1) := by decide +kernel
theorem d_Mo_spoken_22 : decode b_Mo_spoken 22 = .ok (.aload_n 0, 1) := by decide +kernel
theorem d_Mo_spoken_23 : decode b_Mo_spoken 23 = .ok (.getfield 29, 3) := by decide +kernel
theorem d_Mo_spoken_26 : decode b_Mo_spoken 26 = .ok (.iload_n 1, 1) := by decide +kernel
theorem d_Mo_spoken_27 : decode b_Mo_spoken 27 = .ok (.iaload, 1) := by decide +kernel
theorem d_Mo_spoken_28 : decode b_Mo_spoken 28 = .ok (.aload_n 0, 1) := by decide +kernel
theorem d_Mo_spoken_29 : decode b_Mo_spoken 29 = .ok (.getfield 32, 3) := by decide +kernel
theorem d_Mo_spoken_32 : decode b_Mo_spoken 32 = .ok (.iload_n 1, 1) := by decide +kernel
theorem d_Mo_spoken_33 : decode b_Mo_spoken 33 = .ok (.iaload, 1) := by decide +kernel
theorem d_Mo_spoken_34 : decode b_Mo_spoken 34 = .ok (.iconst 0, 1) := by decide +kernel
theorem d_Mo_spoken_35 : decode b_Mo_spoken 35 = .ok (.invokestatic 206, 3) := by decide +kernel
theorem d_Mo_spoken_38 : decode b_Mo_spoken 38 = .ok (.ireturn, 1) := by decide +kernel
theorem d_Mo_spoken_39 : decode b_Mo_spoken 39 = .ok (.aload_n 0, 1) := by decide +kernel
theorem d_Mo_spoken_40 : decode b_Mo_spoken 40 = .ok (.getfield 23, 3) := by decide +kernel
theorem d_Mo_spoken_43 : decode b_Mo_spoken 43 = .ok (.iload_n 1, 1) := by decide +kernel
theorem d_Mo_spoken_44 : decode b_Mo_spoken 44 = .ok (.iaload, 1) := by decide +kernel
theorem d_Mo_spoken_45 : decode b_Mo_spoken 45 = .ok (.iconst 1, 1) := by decide +kernel
theorem d_Mo_spoken_46 : decode b_Mo_spoken 46 = .ok (.if_icmp .ne 23, 3) := by decide +kernel
theorem d_Mo_spoken_49 : decode b_Mo_spoken 49 = .ok (.iconst 2, 1) := by decide +kernel
theorem d_Mo_spoken_50 : decode b_Mo_spoken 50 = .ok (.aload_n 0, 1) := by decide +kernel
theorem d_Mo_spoken_51 : decode b_Mo_spoken 51 = .ok (.getfield 26, 3) := by decide +kernel
theorem d_Mo_spoken_54 : decode b_Mo_spoken 54 = .ok (.iload_n 1, 1) := by decide +kernel
theorem d_Mo_spoken_55 : decode b_Mo_spoken 55 = .ok (.iaload, 1) := by decide +kernel
theorem d_Mo_spoken_56 : decode b_Mo_spoken 56 = .ok (.aload_n 0, 1) := by decide +kernel
theorem d_Mo_spoken_57 : decode b_Mo_spoken 57 = .ok (.getfield 20, 3) := by decide +kernel
theorem d_Mo_spoken_60 : decode b_Mo_spoken 60 = .ok (.iload_n 1, 1) := by decide +kernel
theorem d_Mo_spoken_61 : decode b_Mo_spoken 61 = .ok (.iaload, 1) := by decide +kernel
theorem d_Mo_spoken_62 : decode b_Mo_spoken 62 = .ok (.iconst 0, 1) := by decide +kernel
theorem d_Mo_spoken_63 : decode b_Mo_spoken 63 = .ok (.iconst 0, 1) := by decide +kernel
theorem d_Mo_spoken_64 : decode b_Mo_spoken 64 = .ok (.iconst 0, 1) := by decide +kernel
theorem d_Mo_spoken_65 : decode b_Mo_spoken 65 = .ok (.invokestatic 206, 3) := by decide +kernel
theorem d_Mo_spoken_68 : decode b_Mo_spoken 68 = .ok (.ireturn, 1) := by decide +kernel
theorem d_Mo_spoken_69 : decode b_Mo_spoken 69 = .ok (.aload_n 0, 1) := by decide +kernel
theorem d_Mo_spoken_70 : decode b_Mo_spoken 70 = .ok (.getfield 23, 3) := by decide +kernel
theorem d_Mo_spoken_73 : decode b_Mo_spoken 73 = .ok (.iload_n 1, 1) := by decide +kernel
theorem d_Mo_spoken_74 : decode b_Mo_spoken 74 = .ok (.iaload, 1) := by decide +kernel
theorem d_Mo_spoken_75 : decode b_Mo_spoken 75 = .ok (.iconst 2, 1) := by decide +kernel
theorem d_Mo_spoken_76 : decode b_Mo_spoken 76 = .ok (.if_icmp .ne 40, 3) := by decide +kernel
theorem d_Mo_spoken_79 : decode b_Mo_spoken 79 = .ok (.iconst 3, 1) := by decide +kernel
theorem d_Mo_spoken_80 : decode b_Mo_spoken 80 = .ok (.aload_n 0, 1) := by decide +kernel
theorem d_Mo_spoken_81 : decode b_Mo_spoken 81 = .ok (.getfield 20, 3) := by decide +kernel
theorem d_Mo_spoken_84 : decode b_Mo_spoken 84 = .ok (.iload_n 1, 1) := by decide +kernel
theorem d_Mo_spoken_85 : decode b_Mo_spoken 85 = .ok (.iaload, 1) := by decide +kernel
theorem d_Mo_spoken_86 : decode b_Mo_spoken 86 = .ok (.aload_n 0, 1) := by decide +kernel
theorem d_Mo_spoken_87 : decode b_Mo_spoken 87 = .ok (.getfield 26, 3) := by decide +kernel
theorem d_Mo_spoken_90 : decode b_Mo_spoken 90 = .ok (.iload_n 1, 1) := by decide +kernel
theorem d_Mo_spoken_91 : decode b_Mo_spoken 91 = .ok (.iaload, 1) := by decide +kernel
theorem d_Mo_spoken_92 : decode b_Mo_spoken 92 = .ok (.aload_n 0, 1) := by decide +kernel
theorem d_Mo_spoken_93 : decode b_Mo_spoken 93 = .ok (.getfield 29, 3) := by decide +kernel
theorem d_Mo_spoken_96 : decode b_Mo_spoken 96 = .ok (.iload_n 1, 1) := by decide +kernel
theorem d_Mo_spoken_97 : decode b_Mo_spoken 97 = .ok (.iaload, 1) := by decide +kernel
theorem d_Mo_spoken_98 : decode b_Mo_spoken 98 = .ok (.aload_n 0, 1) := by decide +kernel
theorem d_Mo_spoken_99 : decode b_Mo_spoken 99 = .ok (.getfield 32, 3) := by decide +kernel
theorem d_Mo_spoken_102 : decode b_Mo_spoken 102 = .ok (.iload_n 1, 1) := by decide +kernel
theorem d_Mo_spoken_103 : decode b_Mo_spoken 103 = .ok (.iaload, 1) := by decide +kernel
theorem d_Mo_spoken_104 : decode b_Mo_spoken 104 = .ok (.aload_n 0, 1) := by decide +kernel
theorem d_Mo_spoken_105 : decode b_Mo_spoken 105 = .ok (.getfield 35, 3) := by decide +kernel
theorem d_Mo_spoken_108 : decode b_Mo_spoken 108 = .ok (.iload_n 1, 1) := by decide +kernel
theorem d_Mo_spoken_109 : decode b_Mo_spoken 109 = .ok (.iaload, 1) := by decide +kernel
theorem d_Mo_spoken_110 : decode b_Mo_spoken 110 = .ok (.invokestatic 206, 3) := by decide +kernel
theorem d_Mo_spoken_113 : decode b_Mo_spoken 113 = .ok (.goto 4, 3) := by decide +kernel
theorem d_Mo_spoken_116 : decode b_Mo_spoken 116 = .ok (.iconst 0, 1) := by decide +kernel
theorem d_Mo_spoken_117 : decode b_Mo_spoken 117 = .ok (.ireturn, 1) := by decide +kernel
theorem d_Mo_proves_0 : decode b_Mo_proves 0 = .ok (.aload_n 0, 1) := by decide +kernel
theorem d_Mo_proves_1 : decode b_Mo_proves 1 = .ok (.getfield 103, 3) := by decide +kernel
theorem d_Mo_proves_4 : decode b_Mo_proves 4 = .ok (.ifCond .le 7, 3) := by decide +kernel
theorem d_Mo_proves_7 : decode b_Mo_proves 7 = .ok (.iconst 1, 1) := by decide +kernel
theorem d_Mo_proves_8 : decode b_Mo_proves 8 = .ok (.goto 4, 3) := by decide +kernel
theorem d_Mo_proves_11 : decode b_Mo_proves 11 = .ok (.iconst 0, 1) := by decide +kernel
theorem d_Mo_proves_12 : decode b_Mo_proves 12 = .ok (.istore 5, 2) := by decide +kernel
theorem d_Mo_proves_14 : decode b_Mo_proves 14 = .ok (.iconst 0, 1) := by decide +kernel
theorem d_Mo_proves_15 : decode b_Mo_proves 15 = .ok (.istore 6, 2) := by decide +kernel
theorem d_Mo_proves_17 : decode b_Mo_proves 17 = .ok (.iload 6, 2) := by decide +kernel
theorem d_Mo_proves_19 : decode b_Mo_proves 19 = .ok (.aload_n 0, 1) := by decide +kernel
theorem d_Mo_proves_20 : decode b_Mo_proves 20 = .ok (.getfield 103, 3) := by decide +kernel
theorem d_Mo_proves_23 : decode b_Mo_proves 23 = .ok (.if_icmp .ge 44, 3) := by decide +kernel
theorem d_Mo_proves_26 : decode b_Mo_proves 26 = .ok (.iload 5, 2) := by decide +kernel
theorem d_Mo_proves_28 : decode b_Mo_proves 28 = .ok (.ifCond .eq 39, 3) := by decide +kernel
theorem d_Mo_proves_31 : decode b_Mo_proves 31 = .ok (.aload_n 0, 1) := by decide +kernel
theorem d_Mo_proves_32 : decode b_Mo_proves 32 = .ok (.getfield 59, 3) := by decide +kernel
theorem d_Mo_proves_35 : decode b_Mo_proves 35 = .ok (.iload 6, 2) := by decide +kernel
theorem d_Mo_proves_37 : decode b_Mo_proves 37 = .ok (.aload_n 0, 1) := by decide +kernel
theorem d_Mo_proves_38 : decode b_Mo_proves 38 = .ok (.iload 6, 2) := by decide +kernel
theorem d_Mo_proves_40 : decode b_Mo_proves 40 = .ok (.invokevirtual 210, 3) := by decide +kernel
theorem d_Mo_proves_43 : decode b_Mo_proves 43 = .ok (.iastore, 1) := by decide +kernel
theorem d_Mo_proves_44 : decode b_Mo_proves 44 = .ok (.aload_n 0, 1) := by decide +kernel
theorem d_Mo_proves_45 : decode b_Mo_proves 45 = .ok (.getfield 59, 3) := by decide +kernel
theorem d_Mo_proves_48 : decode b_Mo_proves 48 = .ok (.iload 6, 2) := by decide +kernel
theorem d_Mo_proves_50 : decode b_Mo_proves 50 = .ok (.iaload, 1) := by decide +kernel
theorem d_Mo_proves_51 : decode b_Mo_proves 51 = .ok (.ifCond .eq 7, 3) := by decide +kernel
theorem d_Mo_proves_54 : decode b_Mo_proves 54 = .ok (.iconst 1, 1) := by decide +kernel
theorem d_Mo_proves_55 : decode b_Mo_proves 55 = .ok (.goto 4, 3) := by decide +kernel
theorem d_Mo_proves_58 : decode b_Mo_proves 58 = .ok (.iconst 0, 1) := by decide +kernel
theorem d_Mo_proves_59 : decode b_Mo_proves 59 = .ok (.istore 5, 2) := by decide +kernel
theorem d_Mo_proves_61 : decode b_Mo_proves 61 = .ok (.iinc 6 1, 3) := by decide +kernel
theorem d_Mo_proves_64 : decode b_Mo_proves 64 = .ok (.goto (-47), 3) := by decide +kernel
theorem d_Mo_proves_67 : decode b_Mo_proves 67 = .ok (.iload 5, 2) := by decide +kernel
theorem d_Mo_proves_69 : decode b_Mo_proves 69 = .ok (.ifCond .eq 31, 3) := by decide +kernel
theorem d_Mo_proves_72 : decode b_Mo_proves 72 = .ok (.aload_n 0, 1) := by decide +kernel
theorem d_Mo_proves_73 : decode b_Mo_proves 73 = .ok (.getfield 59, 3) := by decide +kernel
theorem d_Mo_proves_76 : decode b_Mo_proves 76 = .ok (.aload_n 0, 1) := by decide +kernel
theorem d_Mo_proves_77 : decode b_Mo_proves 77 = .ok (.getfield 103, 3) := by decide +kernel
theorem d_Mo_proves_80 : decode b_Mo_proves 80 = .ok (.iconst 1, 1) := by decide +kernel
theorem d_Mo_proves_81 : decode b_Mo_proves 81 = .ok (.isub, 1) := by decide +kernel
theorem d_Mo_proves_82 : decode b_Mo_proves 82 = .ok (.iaload, 1) := by decide +kernel
theorem d_Mo_proves_83 : decode b_Mo_proves 83 = .ok (.iconst 1, 1) := by decide +kernel
theorem d_Mo_proves_84 : decode b_Mo_proves 84 = .ok (.iload_n 1, 1) := by decide +kernel
theorem d_Mo_proves_85 : decode b_Mo_proves 85 = .ok (.iload_n 2, 1) := by decide +kernel
theorem d_Mo_proves_86 : decode b_Mo_proves 86 = .ok (.iload_n 3, 1) := by decide +kernel
theorem d_Mo_proves_87 : decode b_Mo_proves 87 = .ok (.iload 4, 2) := by decide +kernel
theorem d_Mo_proves_89 : decode b_Mo_proves 89 = .ok (.iconst 0, 1) := by decide +kernel
theorem d_Mo_proves_90 : decode b_Mo_proves 90 = .ok (.invokestatic 206, 3) := by decide +kernel
theorem d_Mo_proves_93 : decode b_Mo_proves 93 = .ok (.if_icmp .ne 7, 3) := by decide +kernel
theorem d_Mo_proves_96 : decode b_Mo_proves 96 = .ok (.iconst 1, 1) := by decide +kernel
theorem d_Mo_proves_97 : decode b_Mo_proves 97 = .ok (.goto 4, 3) := by decide +kernel
theorem d_Mo_proves_100 : decode b_Mo_proves 100 = .ok (.iconst 0, 1) := by decide +kernel
theorem d_Mo_proves_101 : decode b_Mo_proves 101 = .ok (.ireturn, 1) := by decide +kernel
theorem d_Mo_step_0 : decode b_Mo_step 0 = .ok (.aload_n 0, 1) := by decide +kernel
theorem d_Mo_step_1 : decode b_Mo_step 1 = .ok (.iconst 0, 1) := by decide +kernel
theorem d_Mo_step_2 : decode b_Mo_step 2 = .ok (.putfield 93, 3) := by decide +kernel
theorem d_Mo_step_5 : decode b_Mo_step 5 = .ok (.aload_n 0, 1) := by decide +kernel
theorem d_Mo_step_6 : decode b_Mo_step 6 = .ok (.getfield 103, 3) := by decide +kernel
theorem d_Mo_step_9 : decode b_Mo_step 9 = .ok (.bipush 40, 2) := by decide +kernel
theorem d_Mo_step_11 : decode b_Mo_step 11 = .ok (.if_icmp .ne 5, 3) := by decide +kernel
theorem d_Mo_step_14 : decode b_Mo_step 14 = .ok (.iconst (-1), 1) := by decide +kernel
theorem d_Mo_step_15 : decode b_Mo_step 15 = .ok (.ireturn, 1) := by decide +kernel
theorem d_Mo_step_16 : decode b_Mo_step 16 = .ok (.aload_n 0, 1) := by decide +kernel
theorem d_Mo_step_17 : decode b_Mo_step 17 = .ok (.getfield 50, 3) := by decide +kernel
theorem d_Mo_step_20 : decode b_Mo_step 20 = .ok (.aload_n 0, 1) := by decide +kernel
theorem d_Mo_step_21 : decode b_Mo_step 21 = .ok (.getfield 103, 3) := by decide +kernel
theorem d_Mo_step_24 : decode b_Mo_step 24 = .ok (.iload_n 1, 1) := by decide +kernel
theorem d_Mo_step_25 : decode b_Mo_step 25 = .ok (.iastore, 1) := by decide +kernel
theorem d_Mo_step_26 : decode b_Mo_step 26 = .ok (.aload_n 0, 1) := by decide +kernel
theorem d_Mo_step_27 : decode b_Mo_step 27 = .ok (.getfield 53, 3) := by decide +kernel
theorem d_Mo_step_30 : decode b_Mo_step 30 = .ok (.aload_n 0, 1) := by decide +kernel
theorem d_Mo_step_31 : decode b_Mo_step 31 = .ok (.getfield 103, 3) := by decide +kernel
theorem d_Mo_step_34 : decode b_Mo_step 34 = .ok (.iload_n 2, 1) := by decide +kernel
theorem d_Mo_step_35 : decode b_Mo_step 35 = .ok (.iastore, 1) := by decide +kernel
theorem d_Mo_step_36 : decode b_Mo_step 36 = .ok (.aload_n 0, 1) := by decide +kernel
theorem d_Mo_step_37 : decode b_Mo_step 37 = .ok (.getfield 56, 3) := by decide +kernel
theorem d_Mo_step_40 : decode b_Mo_step 40 = .ok (.aload_n 0, 1) := by decide +kernel
theorem d_Mo_step_41 : decode b_Mo_step 41 = .ok (.getfield 103, 3) := by decide +kernel
theorem d_Mo_step_44 : decode b_Mo_step 44 = .ok (.iload_n 3, 1) := by decide +kernel
theorem d_Mo_step_45 : decode b_Mo_step 45 = .ok (.iastore, 1) := by decide +kernel
theorem d_Mo_step_46 : decode b_Mo_step 46 = .ok (.aload_n 0, 1) := by decide +kernel
theorem d_Mo_step_47 : decode b_Mo_step 47 = .ok (.dup, 1) := by decide +kernel
theorem d_Mo_step_48 : decode b_Mo_step 48 = .ok (.getfield 103, 3) := by decide +kernel
theorem d_Mo_step_51 : decode b_Mo_step 51 = .ok (.iconst 1, 1) := by decide +kernel
theorem d_Mo_step_52 : decode b_Mo_step 52 = .ok (.iadd, 1) := by decide +kernel
theorem d_Mo_step_53 : decode b_Mo_step 53 = .ok (.putfield 103, 3) := by decide +kernel
theorem d_Mo_step_56 : decode b_Mo_step 56 = .ok (.aload_n 0, 1) := by decide +kernel
theorem d_Mo_step_57 : decode b_Mo_step 57 = .ok (.getfield 103, 3) := by decide +kernel
theorem d_Mo_step_60 : decode b_Mo_step 60 = .ok (.iconst 1, 1) := by decide +kernel
theorem d_Mo_step_61 : decode b_Mo_step 61 = .ok (.isub, 1) := by decide +kernel
theorem d_Mo_step_62 : decode b_Mo_step 62 = .ok (.ireturn, 1) := by decide +kernel
theorem d_Mo_clear_0 : decode b_Mo_clear 0 = .ok (.aload_n 0, 1) := by decide +kernel
theorem d_Mo_clear_1 : decode b_Mo_clear 1 = .ok (.iconst 0, 1) := by decide +kernel
theorem d_Mo_clear_2 : decode b_Mo_clear 2 = .ok (.putfield 93, 3) := by decide +kernel
theorem d_Mo_clear_5 : decode b_Mo_clear 5 = .ok (.aload_n 0, 1) := by decide +kernel
theorem d_Mo_clear_6 : decode b_Mo_clear 6 = .ok (.getfield 103, 3) := by decide +kernel
theorem d_Mo_clear_9 : decode b_Mo_clear 9 = .ok (.istore_n 1, 1) := by decide +kernel
theorem d_Mo_clear_10 : decode b_Mo_clear 10 = .ok (.aload_n 0, 1) := by decide +kernel
theorem d_Mo_clear_11 : decode b_Mo_clear 11 = .ok (.iconst 0, 1) := by decide +kernel
theorem d_Mo_clear_12 : decode b_Mo_clear 12 = .ok (.putfield 103, 3) := by decide +kernel
theorem d_Mo_clear_15 : decode b_Mo_clear 15 = .ok (.iload_n 1, 1) := by decide +kernel
theorem d_Mo_clear_16 : decode b_Mo_clear 16 = .ok (.ireturn, 1) := by decide +kernel
theorem d_Mo_steps_0 : decode b_Mo_steps 0 = .ok (.aload_n 0, 1) := by decide +kernel
theorem d_Mo_steps_1 : decode b_Mo_steps 1 = .ok (.iconst 0, 1) := by decide +kernel
theorem d_Mo_steps_2 : decode b_Mo_steps 2 = .ok (.putfield 93, 3) := by decide +kernel
theorem d_Mo_steps_5 : decode b_Mo_steps 5 = .ok (.aload_n 0, 1) := by decide +kernel
theorem d_Mo_steps_6 : decode b_Mo_steps 6 = .ok (.getfield 103, 3) := by decide +kernel
theorem d_Mo_steps_9 : decode b_Mo_steps 9 = .ok (.ireturn, 1) := by decide +kernel
theorem d_Mo_stepAt_0 : decode b_Mo_stepAt 0 = .ok (.aload_n 0, 1) := by decide +kernel
theorem d_Mo_stepAt_1 : decode b_Mo_stepAt 1 = .ok (.iconst 0, 1) := by decide +kernel
theorem d_Mo_stepAt_2 : decode b_Mo_stepAt 2 = .ok (.putfield 93, 3) := by decide +kernel
theorem d_Mo_stepAt_5 : decode b_Mo_stepAt 5 = .ok (.iload_n 1, 1) := by decide +kernel
theorem d_Mo_stepAt_6 : decode b_Mo_stepAt 6 = .ok (.iconst 0, 1) := by decide +kernel
theorem d_Mo_stepAt_7 : decode b_Mo_stepAt 7 = .ok (.aload_n 0, 1) := by decide +kernel
theorem d_Mo_stepAt_8 : decode b_Mo_stepAt 8 = .ok (.getfield 103, 3) := by decide +kernel
theorem d_Mo_stepAt_11 : decode b_Mo_stepAt 11 = .ok (.iconst 1, 1) := by decide +kernel
theorem d_Mo_stepAt_12 : decode b_Mo_stepAt 12 = .ok (.isub, 1) := by decide +kernel
theorem d_Mo_stepAt_13 : decode b_Mo_stepAt 13 = .ok (.invokestatic 106, 3) := by decide +kernel
theorem d_Mo_stepAt_16 : decode b_Mo_stepAt 16 = .ok (.ifCond .eq 12, 3) := by decide +kernel
theorem d_Mo_stepAt_19 : decode b_Mo_stepAt 19 = .ok (.iload_n 2, 1) := by decide +kernel
theorem d_Mo_stepAt_20 : decode b_Mo_stepAt 20 = .ok (.iconst 0, 1) := by decide +kernel
theorem d_Mo_stepAt_21 : decode b_Mo_stepAt 21 = .ok (.iconst 2, 1) := by decide +kernel
theorem d_Mo_stepAt_22 : decode b_Mo_stepAt 22 = .ok (.invokestatic 106, 3) := by decide +kernel
theorem d_Mo_stepAt_25 : decode b_Mo_stepAt 25 = .ok (.ifCond .ne 5, 3) := by decide +kernel
theorem d_Mo_stepAt_28 : decode b_Mo_stepAt 28 = .ok (.iconst (-1), 1) := by decide +kernel
theorem d_Mo_stepAt_29 : decode b_Mo_stepAt 29 = .ok (.ireturn, 1) := by decide +kernel
theorem d_Mo_stepAt_30 : decode b_Mo_stepAt 30 = .ok (.iload_n 2, 1) := by decide +kernel
theorem d_Mo_stepAt_31 : decode b_Mo_stepAt 31 = .ok (.ifCond .ne 12, 3) := by decide +kernel
theorem d_Mo_stepAt_34 : decode b_Mo_stepAt 34 = .ok (.aload_n 0, 1) := by decide +kernel
theorem d_Mo_stepAt_35 : decode b_Mo_stepAt 35 = .ok (.getfield 50, 3) := by decide +kernel
theorem d_Mo_stepAt_38 : decode b_Mo_stepAt 38 = .ok (.iload_n 1, 1) := by decide +kernel
theorem d_Mo_stepAt_39 : decode b_Mo_stepAt 39 = .ok (.iaload, 1) := by decide +kernel
theorem d_Mo_stepAt_40 : decode b_Mo_stepAt 40 = .ok (.goto 23, 3) := by decide +kernel
theorem d_Mo_stepAt_43 : decode b_Mo_stepAt 43 = .ok (.iload_n 2, 1) := by decide +kernel
theorem d_Mo_stepAt_44 : decode b_Mo_stepAt 44 = .ok (.iconst 1, 1) := by decide +kernel
theorem d_Mo_stepAt_45 : decode b_Mo_stepAt 45 = .ok (.if_icmp .ne 12, 3) := by decide +kernel
theorem d_Mo_stepAt_48 : decode b_Mo_stepAt 48 = .ok (.aload_n 0, 1) := by decide +kernel
theorem d_Mo_stepAt_49 : decode b_Mo_stepAt 49 = .ok (.getfield 53, 3) := by decide +kernel
theorem d_Mo_stepAt_52 : decode b_Mo_stepAt 52 = .ok (.iload_n 1, 1) := by decide +kernel
theorem d_Mo_stepAt_53 : decode b_Mo_stepAt 53 = .ok (.iaload, 1) := by decide +kernel
theorem d_Mo_stepAt_54 : decode b_Mo_stepAt 54 = .ok (.goto 9, 3) := by decide +kernel
theorem d_Mo_stepAt_57 : decode b_Mo_stepAt 57 = .ok (.aload_n 0, 1) := by decide +kernel
theorem d_Mo_stepAt_58 : decode b_Mo_stepAt 58 = .ok (.getfield 56, 3) := by decide +kernel
theorem d_Mo_stepAt_61 : decode b_Mo_stepAt 61 = .ok (.iload_n 1, 1) := by decide +kernel
theorem d_Mo_stepAt_62 : decode b_Mo_stepAt 62 = .ok (.iaload, 1) := by decide +kernel
theorem d_Mo_stepAt_63 : decode b_Mo_stepAt 63 = .ok (.ireturn, 1) := by decide +kernel
theorem d_Mo_isGoal_0 : decode b_Mo_isGoal 0 = .ok (.iload_n 1, 1) := by decide +kernel
theorem d_Mo_isGoal_1 : decode b_Mo_isGoal 1 = .ok (.invokestatic 116, 3) := by decide +kernel
theorem d_Mo_isGoal_4 : decode b_Mo_isGoal 4 = .ok (.ifCond .eq 42, 3) := by decide +kernel
theorem d_Mo_isGoal_7 : decode b_Mo_isGoal 7 = .ok (.iload_n 2, 1) := by decide +kernel
theorem d_Mo_isGoal_8 : decode b_Mo_isGoal 8 = .ok (.invokestatic 120, 3) := by decide +kernel
theorem d_Mo_isGoal_11 : decode b_Mo_isGoal 11 = .ok (.ifCond .eq 35, 3) := by decide +kernel
theorem d_Mo_isGoal_14 : decode b_Mo_isGoal 14 = .ok (.iload_n 3, 1) := by decide +kernel
theorem d_Mo_isGoal_15 : decode b_Mo_isGoal 15 = .ok (.iconst 0, 1) := by decide +kernel
theorem d_Mo_isGoal_16 : decode b_Mo_isGoal 16 = .ok (.iconst 5, 1) := by decide +kernel
theorem d_Mo_isGoal_17 : decode b_Mo_isGoal 17 = .ok (.invokestatic 106, 3) := by decide +kernel
theorem d_Mo_isGoal_20 : decode b_Mo_isGoal 20 = .ok (.ifCond .eq 26, 3) := by decide +kernel
theorem d_Mo_isGoal_23 : decode b_Mo_isGoal 23 = .ok (.aload_n 0, 1) := by decide +kernel
theorem d_Mo_isGoal_24 : decode b_Mo_isGoal 24 = .ok (.getfield 7, 3) := by decide +kernel
theorem d_Mo_isGoal_27 : decode b_Mo_isGoal 27 = .ok (.iload_n 3, 1) := by decide +kernel
theorem d_Mo_isGoal_28 : decode b_Mo_isGoal 28 = .ok (.baload, 1) := by decide +kernel
theorem d_Mo_isGoal_29 : decode b_Mo_isGoal 29 = .ok (.iload_n 2, 1) := by decide +kernel
theorem d_Mo_isGoal_30 : decode b_Mo_isGoal 30 = .ok (.iconst 3, 1) := by decide +kernel
theorem d_Mo_isGoal_31 : decode b_Mo_isGoal 31 = .ok (.if_icmp .eq 7, 3) := by decide +kernel
theorem d_Mo_isGoal_34 : decode b_Mo_isGoal 34 = .ok (.iconst 1, 1) := by decide +kernel
theorem d_Mo_isGoal_35 : decode b_Mo_isGoal 35 = .ok (.goto 4, 3) := by decide +kernel
theorem d_Mo_isGoal_38 : decode b_Mo_isGoal 38 = .ok (.iconst 0, 1) := by decide +kernel
theorem d_Mo_isGoal_39 : decode b_Mo_isGoal 39 = .ok (.if_icmp .ne 7, 3) := by decide +kernel
theorem d_Mo_isGoal_42 : decode b_Mo_isGoal 42 = .ok (.iconst 1, 1) := by decide +kernel
theorem d_Mo_isGoal_43 : decode b_Mo_isGoal 43 = .ok (.goto 4, 3) := by decide +kernel
theorem d_Mo_isGoal_46 : decode b_Mo_isGoal 46 = .ok (.iconst 0, 1) := by decide +kernel
theorem d_Mo_isGoal_47 : decode b_Mo_isGoal 47 = .ok (.ireturn, 1) := by decide +kernel
theorem d_Mo_sayer_0 : decode b_Mo_sayer 0 = .ok (.iload_n 1, 1) := by decide +kernel
theorem d_Mo_sayer_1 : decode b_Mo_sayer 1 = .ok (.iconst 3, 1) := by decide +kernel
theorem d_Mo_sayer_2 : decode b_Mo_sayer 2 = .ok (.if_icmp .ne 7, 3) := by decide +kernel
theorem d_Mo_sayer_5 : decode b_Mo_sayer 5 = .ok (.iconst 0, 1) := by decide +kernel
theorem d_Mo_sayer_6 : decode b_Mo_sayer 6 = .ok (.goto 9, 3) := by decide +kernel
theorem d_Mo_sayer_9 : decode b_Mo_sayer 9 = .ok (.aload_n 0, 1) := by decide +kernel
theorem d_Mo_sayer_10 : decode b_Mo_sayer 10 = .ok (.getfield 13, 3) := by decide +kernel
theorem d_Mo_sayer_13 : decode b_Mo_sayer 13 = .ok (.iload_n 2, 1) := by decide +kernel
theorem d_Mo_sayer_14 : decode b_Mo_sayer 14 = .ok (.iaload, 1) := by decide +kernel
theorem d_Mo_sayer_15 : decode b_Mo_sayer 15 = .ok (.ireturn, 1) := by decide +kernel
theorem d_Mo_prove_0 : decode b_Mo_prove 0 = .ok (.aload_n 0, 1) := by decide +kernel
theorem d_Mo_prove_1 : decode b_Mo_prove 1 = .ok (.iconst 0, 1) := by decide +kernel
theorem d_Mo_prove_2 : decode b_Mo_prove 2 = .ok (.putfield 93, 3) := by decide +kernel
theorem d_Mo_prove_5 : decode b_Mo_prove 5 = .ok (.aload_n 0, 1) := by decide +kernel
theorem d_Mo_prove_6 : decode b_Mo_prove 6 = .ok (.iload_n 1, 1) := by decide +kernel
theorem d_Mo_prove_7 : decode b_Mo_prove 7 = .ok (.iload_n 2, 1) := by decide +kernel
theorem d_Mo_prove_8 : decode b_Mo_prove 8 = .ok (.iload_n 3, 1) := by decide +kernel
theorem d_Mo_prove_9 : decode b_Mo_prove 9 = .ok (.invokevirtual 213, 3) := by decide +kernel
theorem d_Mo_prove_12 : decode b_Mo_prove 12 = .ok (.ifCond .ne 5, 3) := by decide +kernel
theorem d_Mo_prove_15 : decode b_Mo_prove 15 = .ok (.iconst (-1), 1) := by decide +kernel
theorem d_Mo_prove_16 : decode b_Mo_prove 16 = .ok (.ireturn, 1) := by decide +kernel
theorem d_Mo_prove_17 : decode b_Mo_prove 17 = .ok (.aload_n 0, 1) := by decide +kernel
theorem d_Mo_prove_18 : decode b_Mo_prove 18 = .ok (.iload_n 3, 1) := by decide +kernel
theorem d_Mo_prove_19 : decode b_Mo_prove 19 = .ok (.aload_n 0, 1) := by decide +kernel
theorem d_Mo_prove_20 : decode b_Mo_prove 20 = .ok (.iload_n 2, 1) := by decide +kernel
theorem d_Mo_prove_21 : decode b_Mo_prove 21 = .ok (.iload_n 3, 1) := by decide +kernel
theorem d_Mo_prove_22 : decode b_Mo_prove 22 = .ok (.invokevirtual 216, 3) := by decide +kernel
theorem d_Mo_prove_25 : decode b_Mo_prove 25 = .ok (.iload_n 1, 1) := by decide +kernel
theorem d_Mo_prove_26 : decode b_Mo_prove 26 = .ok (.iload_n 2, 1) := by decide +kernel
theorem d_Mo_prove_27 : decode b_Mo_prove 27 = .ok (.invokestatic 153, 3) := by decide +kernel
theorem d_Mo_prove_30 : decode b_Mo_prove 30 = .ok (.invokevirtual 219, 3) := by decide +kernel
theorem d_Mo_prove_33 : decode b_Mo_prove 33 = .ok (.istore 4, 2) := by decide +kernel
theorem d_Mo_prove_35 : decode b_Mo_prove 35 = .ok (.iload 4, 2) := by decide +kernel
theorem d_Mo_prove_37 : decode b_Mo_prove 37 = .ok (.ifCond .ne 6, 3) := by decide +kernel
theorem d_Mo_prove_40 : decode b_Mo_prove 40 = .ok (.bipush (-2), 2) := by decide +kernel
theorem d_Mo_prove_42 : decode b_Mo_prove 42 = .ok (.ireturn, 1) := by decide +kernel
theorem d_Mo_prove_43 : decode b_Mo_prove 43 = .ok (.iload 4, 2) := by decide +kernel
theorem d_Mo_prove_45 : decode b_Mo_prove 45 = .ok (.bipush 40, 2) := by decide +kernel
theorem d_Mo_prove_47 : decode b_Mo_prove 47 = .ok (.if_icmp .le 6, 3) := by decide +kernel
theorem d_Mo_prove_50 : decode b_Mo_prove 50 = .ok (.bipush (-3), 2) := by decide +kernel
theorem d_Mo_prove_52 : decode b_Mo_prove 52 = .ok (.ireturn, 1) := by decide +kernel
theorem d_Mo_prove_53 : decode b_Mo_prove 53 = .ok (.aload_n 0, 1) := by decide +kernel
theorem d_Mo_prove_54 : decode b_Mo_prove 54 = .ok (.iload 4, 2) := by decide +kernel
theorem d_Mo_prove_56 : decode b_Mo_prove 56 = .ok (.putfield 103, 3) := by decide +kernel
theorem d_Mo_prove_59 : decode b_Mo_prove 59 = .ok (.iconst 0, 1) := by decide +kernel
theorem d_Mo_prove_60 : decode b_Mo_prove 60 = .ok (.istore 5, 2) := by decide +kernel
theorem d_Mo_prove_62 : decode b_Mo_prove 62 = .ok (.iload 5, 2) := by decide +kernel
theorem d_Mo_prove_64 : decode b_Mo_prove 64 = .ok (.iload 4, 2) := by decide +kernel
theorem d_Mo_prove_66 : decode b_Mo_prove 66 = .ok (.if_icmp .ge 51, 3) := by decide +kernel
theorem d_Mo_prove_69 : decode b_Mo_prove 69 = .ok (.aload_n 0, 1) := by decide +kernel
theorem d_Mo_prove_70 : decode b_Mo_prove 70 = .ok (.getfield 50, 3) := by decide +kernel
theorem d_Mo_prove_73 : decode b_Mo_prove 73 = .ok (.iload 5, 2) := by decide +kernel
theorem d_Mo_prove_75 : decode b_Mo_prove 75 = .ok (.aload_n 0, 1) := by decide +kernel
theorem d_Mo_prove_76 : decode b_Mo_prove 76 = .ok (.getfield 62, 3) := by decide +kernel
theorem d_Mo_prove_79 : decode b_Mo_prove 79 = .ok (.iload 5, 2) := by decide +kernel
theorem d_Mo_prove_81 : decode b_Mo_prove 81 = .ok (.iaload, 1) := by decide +kernel
theorem d_Mo_prove_82 : decode b_Mo_prove 82 = .ok (.iastore, 1) := by decide +kernel
theorem d_Mo_prove_83 : decode b_Mo_prove 83 = .ok (.aload_n 0, 1) := by decide +kernel
theorem d_Mo_prove_84 : decode b_Mo_prove 84 = .ok (.getfield 53, 3) := by decide +kernel
theorem d_Mo_prove_87 : decode b_Mo_prove 87 = .ok (.iload 5, 2) := by decide +kernel
theorem d_Mo_prove_89 : decode b_Mo_prove 89 = .ok (.aload_n 0, 1) := by decide +kernel
theorem d_Mo_prove_90 : decode b_Mo_prove 90 = .ok (.getfield 65, 3) := by decide +kernel
theorem d_Mo_prove_93 : decode b_Mo_prove 93 = .ok (.iload 5, 2) := by decide +kernel
theorem d_Mo_prove_95 : decode b_Mo_prove 95 = .ok (.iaload, 1) := by decide +kernel
theorem d_Mo_prove_96 : decode b_Mo_prove 96 = .ok (.iastore, 1) := by decide +kernel
theorem d_Mo_prove_97 : decode b_Mo_prove 97 = .ok (.aload_n 0, 1) := by decide +kernel
theorem d_Mo_prove_98 : decode b_Mo_prove 98 = .ok (.getfield 56, 3) := by decide +kernel
theorem d_Mo_prove_101 : decode b_Mo_prove 101 = .ok (.iload 5, 2) := by decide +kernel
theorem d_Mo_prove_103 : decode b_Mo_prove 103 = .ok (.aload_n 0, 1) := by decide +kernel
theorem d_Mo_prove_104 : decode b_Mo_prove 104 = .ok (.getfield 68, 3) := by decide +kernel
theorem d_Mo_prove_107 : decode b_Mo_prove 107 = .ok (.iload 5, 2) := by decide +kernel
theorem d_Mo_prove_109 : decode b_Mo_prove 109 = .ok (.iaload, 1) := by decide +kernel
theorem d_Mo_prove_110 : decode b_Mo_prove 110 = .ok (.iastore, 1) := by decide +kernel
theorem d_Mo_prove_111 : decode b_Mo_prove 111 = .ok (.iinc 5 1, 3) := by decide +kernel
theorem d_Mo_prove_114 : decode b_Mo_prove 114 = .ok (.goto (-52), 3) := by decide +kernel
theorem d_Mo_prove_117 : decode b_Mo_prove 117 = .ok (.iload 4, 2) := by decide +kernel
theorem d_Mo_prove_119 : decode b_Mo_prove 119 = .ok (.ireturn, 1) := by decide +kernel
theorem d_Mo_check_0 : decode b_Mo_check 0 = .ok (.aload_n 0, 1) := by decide +kernel
theorem d_Mo_check_1 : decode b_Mo_check 1 = .ok (.iconst 0, 1) := by decide +kernel
theorem d_Mo_check_2 : decode b_Mo_check 2 = .ok (.putfield 93, 3) := by decide +kernel
theorem d_Mo_check_5 : decode b_Mo_check 5 = .ok (.aload_n 0, 1) := by decide +kernel
theorem d_Mo_check_6 : decode b_Mo_check 6 = .ok (.iload_n 1, 1) := by decide +kernel
theorem d_Mo_check_7 : decode b_Mo_check 7 = .ok (.iload_n 2, 1) := by decide +kernel
theorem d_Mo_check_8 : decode b_Mo_check 8 = .ok (.iload_n 3, 1) := by decide +kernel
theorem d_Mo_check_9 : decode b_Mo_check 9 = .ok (.invokevirtual 213, 3) := by decide +kernel
theorem d_Mo_check_12 : decode b_Mo_check 12 = .ok (.ifCond .eq 23, 3) := by decide +kernel
theorem d_Mo_check_15 : decode b_Mo_check 15 = .ok (.aload_n 0, 1) := by decide +kernel
theorem d_Mo_check_16 : decode b_Mo_check 16 = .ok (.aload_n 0, 1) := by decide +kernel
theorem d_Mo_check_17 : decode b_Mo_check 17 = .ok (.iload_n 2, 1) := by decide +kernel
theorem d_Mo_check_18 : decode b_Mo_check 18 = .ok (.iload_n 3, 1) := by decide +kernel
theorem d_Mo_check_19 : decode b_Mo_check 19 = .ok (.invokevirtual 216, 3) := by decide +kernel
theorem d_Mo_check_22 : decode b_Mo_check 22 = .ok (.iload_n 1, 1) := by decide +kernel
theorem d_Mo_check_23 : decode b_Mo_check 23 = .ok (.iload_n 2, 1) := by decide +kernel
theorem d_Mo_check_24 : decode b_Mo_check 24 = .ok (.iload_n 3, 1) := by decide +kernel
theorem d_Mo_check_25 : decode b_Mo_check 25 = .ok (.invokevirtual 222, 3) := by decide +kernel
theorem d_Mo_check_28 : decode b_Mo_check 28 = .ok (.ifCond .eq 7, 3) := by decide +kernel
theorem d_Mo_check_31 : decode b_Mo_check 31 = .ok (.iconst 1, 1) := by decide +kernel
theorem d_Mo_check_32 : decode b_Mo_check 32 = .ok (.goto 4, 3) := by decide +kernel
theorem d_Mo_check_35 : decode b_Mo_check 35 = .ok (.iconst 0, 1) := by decide +kernel
theorem d_Mo_check_36 : decode b_Mo_check 36 = .ok (.ireturn, 1) := by decide +kernel
theorem d_Mo_request_0 : decode b_Mo_request 0 = .ok (.aload_n 0, 1) := by decide +kernel
theorem d_Mo_request_1 : decode b_Mo_request 1 = .ok (.iconst 0, 1) := by decide +kernel
theorem d_Mo_request_2 : decode b_Mo_request 2 = .ok (.putfield 93, 3) := by decide +kernel
theorem d_Mo_request_5 : decode b_Mo_request 5 = .ok (.iload_n 1, 1) := by decide +kernel
theorem d_Mo_request_6 : decode b_Mo_request 6 = .ok (.invokestatic 116, 3) := by decide +kernel
theorem d_Mo_request_9 : decode b_Mo_request 9 = .ok (.ifCond .eq 19, 3) := by decide +kernel
theorem d_Mo_request_12 : decode b_Mo_request 12 = .ok (.iload_n 2, 1) := by decide +kernel
theorem d_Mo_request_13 : decode b_Mo_request 13 = .ok (.invokestatic 120, 3) := by decide +kernel
theorem d_Mo_request_16 : decode b_Mo_request 16 = .ok (.ifCond .eq 12, 3) := by decide +kernel
theorem d_Mo_request_19 : decode b_Mo_request 19 = .ok (.iload_n 3, 1) := by decide +kernel
theorem d_Mo_request_20 : decode b_Mo_request 20 = .ok (.iconst 0, 1) := by decide +kernel
theorem d_Mo_request_21 : decode b_Mo_request 21 = .ok (.iconst 5, 1) := by decide +kernel
theorem d_Mo_request_22 : decode b_Mo_request 22 = .ok (.invokestatic 106, 3) := by decide +kernel
theorem d_Mo_request_25 : decode b_Mo_request 25 = .ok (.ifCond .ne 9, 3) := by decide +kernel
theorem d_Mo_request_28 : decode b_Mo_request 28 = .ok (.aload_n 0, 1) := by decide +kernel
theorem d_Mo_request_29 : decode b_Mo_request 29 = .ok (.iconst 1, 1) := by decide +kernel
theorem d_Mo_request_30 : decode b_Mo_request 30 = .ok (.invokevirtual 126, 3) := by decide +kernel
theorem d_Mo_request_33 : decode b_Mo_request 33 = .ok (.ireturn, 1) := by decide +kernel
theorem d_Mo_request_34 : decode b_Mo_request 34 = .ok (.aload_n 0, 1) := by decide +kernel
theorem d_Mo_request_35 : decode b_Mo_request 35 = .ok (.iload_n 1, 1) := by decide +kernel
theorem d_Mo_request_36 : decode b_Mo_request 36 = .ok (.iload_n 2, 1) := by decide +kernel
theorem d_Mo_request_37 : decode b_Mo_request 37 = .ok (.iload_n 3, 1) := by decide +kernel
theorem d_Mo_request_38 : decode b_Mo_request 38 = .ok (.invokevirtual 213, 3) := by decide +kernel
theorem d_Mo_request_41 : decode b_Mo_request 41 = .ok (.ifCond .ne 9, 3) := by decide +kernel
theorem d_Mo_request_44 : decode b_Mo_request 44 = .ok (.aload_n 0, 1) := by decide +kernel
theorem d_Mo_request_45 : decode b_Mo_request 45 = .ok (.iconst 2, 1) := by decide +kernel
theorem d_Mo_request_46 : decode b_Mo_request 46 = .ok (.invokevirtual 126, 3) := by decide +kernel
theorem d_Mo_request_49 : decode b_Mo_request 49 = .ok (.ireturn, 1) := by decide +kernel
theorem d_Mo_request_50 : decode b_Mo_request 50 = .ok (.aload_n 0, 1) := by decide +kernel
theorem d_Mo_request_51 : decode b_Mo_request 51 = .ok (.iload_n 2, 1) := by decide +kernel
theorem d_Mo_request_52 : decode b_Mo_request 52 = .ok (.iload_n 3, 1) := by decide +kernel
theorem d_Mo_request_53 : decode b_Mo_request 53 = .ok (.invokevirtual 216, 3) := by decide +kernel
theorem d_Mo_request_56 : decode b_Mo_request 56 = .ok (.istore 6, 2) := by decide +kernel
theorem d_Mo_request_58 : decode b_Mo_request 58 = .ok (.iload 5, 2) := by decide +kernel
theorem d_Mo_request_60 : decode b_Mo_request 60 = .ok (.ifCond .eq 26, 3) := by decide +kernel
theorem d_Mo_request_63 : decode b_Mo_request 63 = .ok (.aload_n 0, 1) := by decide +kernel
theorem d_Mo_request_64 : decode b_Mo_request 64 = .ok (.iload 6, 2) := by decide +kernel
theorem d_Mo_request_66 : decode b_Mo_request 66 = .ok (.iload_n 1, 1) := by decide +kernel
theorem d_Mo_request_67 : decode b_Mo_request 67 = .ok (.iload_n 2, 1) := by decide +kernel
theorem d_Mo_request_68 : decode b_Mo_request 68 = .ok (.iload_n 3, 1) := by decide +kernel
theorem d_Mo_request_69 : decode b_Mo_request 69 = .ok (.invokevirtual 222, 3) := by decide +kernel
theorem d_Mo_request_72 : decode b_Mo_request 72 = .ok (.ifCond .eq 10, 3) := by decide +kernel
theorem d_Mo_request_75 : decode b_Mo_request 75 = .ok (.aload_n 0, 1) := by decide +kernel
theorem d_Mo_request_76 : decode b_Mo_request 76 = .ok (.getfield 103, 3) := by decide +kernel
theorem d_Mo_request_79 : decode b_Mo_request 79 = .ok (.goto 19, 3) := by decide +kernel
theorem d_Mo_request_82 : decode b_Mo_request 82 = .ok (.iconst 0, 1) := by decide +kernel
theorem d_Mo_request_83 : decode b_Mo_request 83 = .ok (.goto 15, 3) := by decide +kernel
theorem d_Mo_request_86 : decode b_Mo_request 86 = .ok (.aload_n 0, 1) := by decide +kernel
theorem d_Mo_request_87 : decode b_Mo_request 87 = .ok (.iload_n 3, 1) := by decide +kernel
theorem d_Mo_request_88 : decode b_Mo_request 88 = .ok (.iload 6, 2) := by decide +kernel
theorem d_Mo_request_90 : decode b_Mo_request 90 = .ok (.iload_n 1, 1) := by decide +kernel
theorem d_Mo_request_91 : decode b_Mo_request 91 = .ok (.iload_n 2, 1) := by decide +kernel
theorem d_Mo_request_92 : decode b_Mo_request 92 = .ok (.invokestatic 153, 3) := by decide +kernel
theorem d_Mo_request_95 : decode b_Mo_request 95 = .ok (.invokevirtual 219, 3) := by decide +kernel
theorem d_Mo_request_98 : decode b_Mo_request 98 = .ok (.istore 7, 2) := by decide +kernel
theorem d_Mo_request_100 : decode b_Mo_request 100 = .ok (.aload_n 0, 1) := by decide +kernel
theorem d_Mo_request_101 : decode b_Mo_request 101 = .ok (.iload 5, 2) := by decide +kernel
theorem d_Mo_request_103 : decode b_Mo_request 103 = .ok (.ifCond .eq 7, 3) := by decide +kernel
theorem d_Mo_request_106 : decode b_Mo_request 106 = .ok (.iconst 0, 1) := by decide +kernel
theorem d_Mo_request_107 : decode b_Mo_request 107 = .ok (.goto 7, 3) := by decide +kernel
theorem d_Mo_request_110 : decode b_Mo_request 110 = .ok (.aload_n 0, 1) := by decide +kernel
theorem d_Mo_request_111 : decode b_Mo_request 111 = .ok (.getfield 103, 3) := by decide +kernel
theorem d_Mo_request_114 : decode b_Mo_request 114 = .ok (.putfield 103, 3) := by decide +kernel
theorem d_Mo_request_117 : decode b_Mo_request 117 = .ok (.iload 7, 2) := by decide +kernel
theorem d_Mo_request_119 : decode b_Mo_request 119 = .ok (.iconst 1, 1) := by decide +kernel
theorem d_Mo_request_120 : decode b_Mo_request 120 = .ok (.if_icmp .lt 10, 3) := by decide +kernel
theorem d_Mo_request_123 : decode b_Mo_request 123 = .ok (.iload 7, 2) := by decide +kernel
theorem d_Mo_request_125 : decode b_Mo_request 125 = .ok (.bipush 40, 2) := by decide +kernel
theorem d_Mo_request_127 : decode b_Mo_request 127 = .ok (.if_icmp .le 9, 3) := by decide +kernel
theorem d_Mo_request_130 : decode b_Mo_request 130 = .ok (.aload_n 0, 1) := by decide +kernel
theorem d_Mo_request_131 : decode b_Mo_request 131 = .ok (.iconst 3, 1) := by decide +kernel
theorem d_Mo_request_132 : decode b_Mo_request 132 = .ok (.invokevirtual 126, 3) := by decide +kernel
theorem d_Mo_request_135 : decode b_Mo_request 135 = .ok (.ireturn, 1) := by decide +kernel
theorem d_Mo_request_136 : decode b_Mo_request 136 = .ok (.aload_n 0, 1) := by decide +kernel
theorem d_Mo_request_137 : decode b_Mo_request 137 = .ok (.invokevirtual 137, 3) := by decide +kernel
theorem d_Mo_request_140 : decode b_Mo_request 140 = .ok (.ifCond .ne 9, 3) := by decide +kernel
theorem d_Mo_request_143 : decode b_Mo_request 143 = .ok (.aload_n 0, 1) := by decide +kernel
theorem d_Mo_request_144 : decode b_Mo_request 144 = .ok (.iconst 4, 1) := by decide +kernel
theorem d_Mo_request_145 : decode b_Mo_request 145 = .ok (.invokevirtual 126, 3) := by decide +kernel
theorem d_Mo_request_148 : decode b_Mo_request 148 = .ok (.ireturn, 1) := by decide +kernel
theorem d_Mo_request_149 : decode b_Mo_request 149 = .ok (.aload_n 0, 1) := by decide +kernel
theorem d_Mo_request_150 : decode b_Mo_request 150 = .ok (.aload_n 0, 1) := by decide +kernel
theorem d_Mo_request_151 : decode b_Mo_request 151 = .ok (.getfield 225, 3) := by decide +kernel
theorem d_Mo_request_154 : decode b_Mo_request 154 = .ok (.iload_n 1, 1) := by decide +kernel
theorem d_Mo_request_155 : decode b_Mo_request 155 = .ok (.ixor, 1) := by decide +kernel
theorem d_Mo_request_156 : decode b_Mo_request 156 = .ok (.bipush 31, 2) := by decide +kernel
theorem d_Mo_request_158 : decode b_Mo_request 158 = .ok (.imul, 1) := by decide +kernel
theorem d_Mo_request_159 : decode b_Mo_request 159 = .ok (.bipush 8, 2) := by decide +kernel
theorem d_Mo_request_161 : decode b_Mo_request 161 = .ok (.iload_n 2, 1) := by decide +kernel
theorem d_Mo_request_162 : decode b_Mo_request 162 = .ok (.imul, 1) := by decide +kernel
theorem d_Mo_request_163 : decode b_Mo_request 163 = .ok (.iadd, 1) := by decide +kernel
theorem d_Mo_request_164 : decode b_Mo_request 164 = .ok (.iload_n 3, 1) := by decide +kernel
theorem d_Mo_request_165 : decode b_Mo_request 165 = .ok (.iadd, 1) := by decide +kernel
theorem d_Mo_request_166 : decode b_Mo_request 166 = .ok (.bipush 31, 2) := by decide +kernel
theorem d_Mo_request_168 : decode b_Mo_request 168 = .ok (.imul, 1) := by decide +kernel
theorem d_Mo_request_169 : decode b_Mo_request 169 = .ok (.iload 7, 2) := by decide +kernel
theorem d_Mo_request_171 : decode b_Mo_request 171 = .ok (.iadd, 1) := by decide +kernel
theorem d_Mo_request_172 : decode b_Mo_request 172 = .ok (.putfield 225, 3) := by decide +kernel
theorem d_Mo_request_175 : decode b_Mo_request 175 = .ok (.aload_n 0, 1) := by decide +kernel
theorem d_Mo_request_176 : decode b_Mo_request 176 = .ok (.dup, 1) := by decide +kernel
theorem d_Mo_request_177 : decode b_Mo_request 177 = .ok (.getfield 228, 3) := by decide +kernel
theorem d_Mo_request_180 : decode b_Mo_request 180 = .ok (.iconst 1, 1) := by decide +kernel
theorem d_Mo_request_181 : decode b_Mo_request 181 = .ok (.iadd, 1) := by decide +kernel
theorem d_Mo_request_182 : decode b_Mo_request 182 = .ok (.putfield 228, 3) := by decide +kernel
theorem d_Mo_request_185 : decode b_Mo_request 185 = .ok (.aload_n 0, 1) := by decide +kernel
theorem d_Mo_request_186 : decode b_Mo_request 186 = .ok (.iload_n 1, 1) := by decide +kernel
theorem d_Mo_request_187 : decode b_Mo_request 187 = .ok (.iload_n 2, 1) := by decide +kernel
theorem d_Mo_request_188 : decode b_Mo_request 188 = .ok (.iload_n 3, 1) := by decide +kernel
theorem d_Mo_request_189 : decode b_Mo_request 189 = .ok (.iload 4, 2) := by decide +kernel
theorem d_Mo_request_191 : decode b_Mo_request 191 = .ok (.invokevirtual 231, 3) := by decide +kernel
theorem d_Mo_request_194 : decode b_Mo_request 194 = .ok (.ireturn, 1) := by decide +kernel
theorem d_Mo_done_0 : decode b_Mo_done 0 = .ok (.iload_n 2, 1) := by decide +kernel
theorem d_Mo_done_1 : decode b_Mo_done 1 = .ok (.iconst 2, 1) := by decide +kernel
theorem d_Mo_done_2 : decode b_Mo_done 2 = .ok (.if_icmp .ne 12, 3) := by decide +kernel
theorem d_Mo_done_5 : decode b_Mo_done 5 = .ok (.aload_n 0, 1) := by decide +kernel
theorem d_Mo_done_6 : decode b_Mo_done 6 = .ok (.getfield 13, 3) := by decide +kernel
theorem d_Mo_done_9 : decode b_Mo_done 9 = .ok (.iload_n 3, 1) := by decide +kernel
theorem d_Mo_done_10 : decode b_Mo_done 10 = .ok (.iaload, 1) := by decide +kernel
theorem d_Mo_done_11 : decode b_Mo_done 11 = .ok (.goto 18, 3) := by decide +kernel
theorem d_Mo_done_14 : decode b_Mo_done 14 = .ok (.iload_n 2, 1) := by decide +kernel
theorem d_Mo_done_15 : decode b_Mo_done 15 = .ok (.iconst 3, 1) := by decide +kernel
theorem d_Mo_done_16 : decode b_Mo_done 16 = .ok (.if_icmp .ne 7, 3) := by decide +kernel
theorem d_Mo_done_19 : decode b_Mo_done 19 = .ok (.iconst 0, 1) := by decide +kernel
theorem d_Mo_done_20 : decode b_Mo_done 20 = .ok (.goto 9, 3) := by decide +kernel
theorem d_Mo_done_23 : decode b_Mo_done 23 = .ok (.aload_n 0, 1) := by decide +kernel
theorem d_Mo_done_24 : decode b_Mo_done 24 = .ok (.getfield 17, 3) := by decide +kernel
theorem d_Mo_done_27 : decode b_Mo_done 27 = .ok (.iload_n 3, 1) := by decide +kernel
theorem d_Mo_done_28 : decode b_Mo_done 28 = .ok (.iaload, 1) := by decide +kernel
theorem d_Mo_done_29 : decode b_Mo_done 29 = .ok (.istore 5, 2) := by decide +kernel
theorem d_Mo_done_31 : decode b_Mo_done 31 = .ok (.iload_n 2, 1) := by decide +kernel
theorem d_Mo_done_32 : decode b_Mo_done 32 = .ok (.iconst 3, 1) := by decide +kernel
theorem d_Mo_done_33 : decode b_Mo_done 33 = .ok (.if_icmp .ne 10, 3) := by decide +kernel
theorem d_Mo_done_36 : decode b_Mo_done 36 = .ok (.aload_n 0, 1) := by decide +kernel
theorem d_Mo_done_37 : decode b_Mo_done 37 = .ok (.getfield 7, 3) := by decide +kernel
theorem d_Mo_done_40 : decode b_Mo_done 40 = .ok (.iload_n 3, 1) := by decide +kernel
theorem d_Mo_done_41 : decode b_Mo_done 41 = .ok (.iconst 1, 1) := by decide +kernel
theorem d_Mo_done_42 : decode b_Mo_done 42 = .ok (.bastore, 1) := by decide +kernel
theorem d_Mo_done_43 : decode b_Mo_done 43 = .ok (.iload_n 2, 1) := by decide +kernel
theorem d_Mo_done_44 : decode b_Mo_done 44 = .ok (.iconst 2, 1) := by decide +kernel
theorem d_Mo_done_45 : decode b_Mo_done 45 = .ok (.if_icmp .ne 18, 3) := by decide +kernel
theorem d_Mo_done_48 : decode b_Mo_done 48 = .ok (.iload 4, 2) := by decide +kernel
theorem d_Mo_done_50 : decode b_Mo_done 50 = .ok (.invokestatic 116, 3) := by decide +kernel
theorem d_Mo_done_53 : decode b_Mo_done 53 = .ok (.ifCond .ne 10, 3) := by decide +kernel
theorem d_Mo_done_56 : decode b_Mo_done 56 = .ok (.aload_n 0, 1) := by decide +kernel
theorem d_Mo_done_57 : decode b_Mo_done 57 = .ok (.getfield 7, 3) := by decide +kernel
theorem d_Mo_done_60 : decode b_Mo_done 60 = .ok (.iload_n 3, 1) := by decide +kernel
theorem d_Mo_done_61 : decode b_Mo_done 61 = .ok (.iconst 0, 1) := by decide +kernel
theorem d_Mo_done_62 : decode b_Mo_done 62 = .ok (.bastore, 1) := by decide +kernel
theorem d_Mo_done_63 : decode b_Mo_done 63 = .ok (.aload_n 0, 1) := by decide +kernel
theorem d_Mo_done_64 : decode b_Mo_done 64 = .ok (.getfield 13, 3) := by decide +kernel
theorem d_Mo_done_67 : decode b_Mo_done 67 = .ok (.iload_n 3, 1) := by decide +kernel
theorem d_Mo_done_68 : decode b_Mo_done 68 = .ok (.iload_n 2, 1) := by decide +kernel
theorem d_Mo_done_69 : decode b_Mo_done 69 = .ok (.iconst 3, 1) := by decide +kernel
theorem d_Mo_done_70 : decode b_Mo_done 70 = .ok (.if_icmp .ne 7, 3) := by decide +kernel
theorem d_Mo_done_73 : decode b_Mo_done 73 = .ok (.iload_n 1, 1) := by decide +kernel
theorem d_Mo_done_74 : decode b_Mo_done 74 = .ok (.goto 27, 3) := by decide +kernel
theorem d_Mo_done_77 : decode b_Mo_done 77 = .ok (.iload_n 2, 1) := by decide +kernel
theorem d_Mo_done_78 : decode b_Mo_done 78 = .ok (.iconst 2, 1) := by decide +kernel
theorem d_Mo_done_79 : decode b_Mo_done 79 = .ok (.if_icmp .ne 16, 3) := by decide +kernel
theorem d_Mo_done_82 : decode b_Mo_done 82 = .ok (.iload 4, 2) := by decide +kernel
theorem d_Mo_done_84 : decode b_Mo_done 84 = .ok (.invokestatic 116, 3) := by decide +kernel
theorem d_Mo_done_87 : decode b_Mo_done 87 = .ok (.ifCond .eq 8, 3) := by decide +kernel
theorem d_Mo_done_90 : decode b_Mo_done 90 = .ok (.iload 4, 2) := by decide +kernel
theorem d_Mo_done_92 : decode b_Mo_done 92 = .ok (.goto 9, 3) := by decide +kernel
theorem d_Mo_done_95 : decode b_Mo_done 95 = .ok (.aload_n 0, 1) := by decide +kernel
theorem d_Mo_done_96 : decode b_Mo_done 96 = .ok (.getfield 13, 3) := by decide +kernel
theorem d_Mo_done_99 : decode b_Mo_done 99 = .ok (.iload_n 3, 1) := by decide +kernel
theorem d_Mo_done_100 : decode b_Mo_done 100 = .ok (.iaload, 1) := by decide +kernel
theorem d_Mo_done_101 : decode b_Mo_done 101 = .ok (.iastore, 1) := by decide +kernel
theorem d_Mo_done_102 : decode b_Mo_done 102 = .ok (.aload_n 0, 1) := by decide +kernel
theorem d_Mo_done_103 : decode b_Mo_done 103 = .ok (.getfield 17, 3) := by decide +kernel
theorem d_Mo_done_106 : decode b_Mo_done 106 = .ok (.iload_n 3, 1) := by decide +kernel
theorem d_Mo_done_107 : decode b_Mo_done 107 = .ok (.iload_n 2, 1) := by decide +kernel
theorem d_Mo_done_108 : decode b_Mo_done 108 = .ok (.iconst 1, 1) := by decide +kernel
theorem d_Mo_done_109 : decode b_Mo_done 109 = .ok (.if_icmp .eq 8, 3) := by decide +kernel
theorem d_Mo_done_112 : decode b_Mo_done 112 = .ok (.iload_n 2, 1) := by decide +kernel
theorem d_Mo_done_113 : decode b_Mo_done 113 = .ok (.iconst 3, 1) := by decide +kernel
theorem d_Mo_done_114 : decode b_Mo_done 114 = .ok (.if_icmp .ne 8, 3) := by decide +kernel
theorem d_Mo_done_117 : decode b_Mo_done 117 = .ok (.iload 4, 2) := by decide +kernel
theorem d_Mo_done_119 : decode b_Mo_done 119 = .ok (.goto 9, 3) := by decide +kernel
theorem d_Mo_done_122 : decode b_Mo_done 122 = .ok (.aload_n 0, 1) := by decide +kernel
theorem d_Mo_done_123 : decode b_Mo_done 123 = .ok (.getfield 17, 3) := by decide +kernel
theorem d_Mo_done_126 : decode b_Mo_done 126 = .ok (.iload_n 3, 1) := by decide +kernel
theorem d_Mo_done_127 : decode b_Mo_done 127 = .ok (.iaload, 1) := by decide +kernel
theorem d_Mo_done_128 : decode b_Mo_done 128 = .ok (.iastore, 1) := by decide +kernel
theorem d_Mo_done_129 : decode b_Mo_done 129 = .ok (.iload 5, 2) := by decide +kernel
theorem d_Mo_done_131 : decode b_Mo_done 131 = .ok (.ireturn, 1) := by decide +kernel
theorem d_Mo_pass_0 : decode b_Mo_pass 0 = .ok (.aload_n 0, 1) := by decide +kernel
theorem d_Mo_pass_1 : decode b_Mo_pass 1 = .ok (.iconst 0, 1) := by decide +kernel
theorem d_Mo_pass_2 : decode b_Mo_pass 2 = .ok (.putfield 93, 3) := by decide +kernel
theorem d_Mo_pass_5 : decode b_Mo_pass 5 = .ok (.iload_n 1, 1) := by decide +kernel
theorem d_Mo_pass_6 : decode b_Mo_pass 6 = .ok (.iconst 1, 1) := by decide +kernel
theorem d_Mo_pass_7 : decode b_Mo_pass 7 = .ok (.bipush 100, 2) := by decide +kernel
theorem d_Mo_pass_9 : decode b_Mo_pass 9 = .ok (.invokestatic 106, 3) := by decide +kernel
theorem d_Mo_pass_12 : decode b_Mo_pass 12 = .ok (.ifCond .ne 5, 3) := by decide +kernel
theorem d_Mo_pass_15 : decode b_Mo_pass 15 = .ok (.iconst (-1), 1) := by decide +kernel
theorem d_Mo_pass_16 : decode b_Mo_pass 16 = .ok (.ireturn, 1) := by decide +kernel
theorem d_Mo_pass_17 : decode b_Mo_pass 17 = .ok (.aload_n 0, 1) := by decide +kernel
theorem d_Mo_pass_18 : decode b_Mo_pass 18 = .ok (.aload_n 0, 1) := by decide +kernel
theorem d_Mo_pass_19 : decode b_Mo_pass 19 = .ok (.getfield 141, 3) := by decide +kernel
theorem d_Mo_pass_22 : decode b_Mo_pass 22 = .ok (.iload_n 1, 1) := by decide +kernel
theorem d_Mo_pass_23 : decode b_Mo_pass 23 = .ok (.iadd, 1) := by decide +kernel
theorem d_Mo_pass_24 : decode b_Mo_pass 24 = .ok (.putfield 141, 3) := by decide +kernel
theorem d_Mo_pass_27 : decode b_Mo_pass 27 = .ok (.aload_n 0, 1) := by decide +kernel
theorem d_Mo_pass_28 : decode b_Mo_pass 28 = .ok (.getfield 141, 3) := by decide +kernel
theorem d_Mo_pass_31 : decode b_Mo_pass 31 = .ok (.ireturn, 1) := by decide +kernel
theorem d_Mo_owner_0 : decode b_Mo_owner 0 = .ok (.aload_n 0, 1) := by decide +kernel
theorem d_Mo_owner_1 : decode b_Mo_owner 1 = .ok (.iconst 0, 1) := by decide +kernel
theorem d_Mo_owner_2 : decode b_Mo_owner 2 = .ok (.putfield 93, 3) := by decide +kernel
theorem d_Mo_owner_5 : decode b_Mo_owner 5 = .ok (.iload_n 1, 1) := by decide +kernel
theorem d_Mo_owner_6 : decode b_Mo_owner 6 = .ok (.iconst 0, 1) := by decide +kernel
theorem d_Mo_owner_7 : decode b_Mo_owner 7 = .ok (.iconst 5, 1) := by decide +kernel
theorem d_Mo_owner_8 : decode b_Mo_owner 8 = .ok (.invokestatic 106, 3) := by decide +kernel
theorem d_Mo_owner_11 : decode b_Mo_owner 11 = .ok (.ifCond .eq 21, 3) := by decide +kernel
theorem d_Mo_owner_14 : decode b_Mo_owner 14 = .ok (.aload_n 0, 1) := by decide +kernel
theorem d_Mo_owner_15 : decode b_Mo_owner 15 = .ok (.getfield 7, 3) := by decide +kernel
theorem d_Mo_owner_18 : decode b_Mo_owner 18 = .ok (.iload_n 1, 1) := by decide +kernel
theorem d_Mo_owner_19 : decode b_Mo_owner 19 = .ok (.baload, 1) := by decide +kernel
theorem d_Mo_owner_20 : decode b_Mo_owner 20 = .ok (.ifCond .eq 12, 3) := by decide +kernel
theorem d_Mo_owner_23 : decode b_Mo_owner 23 = .ok (.aload_n 0, 1) := by decide +kernel
theorem d_Mo_owner_24 : decode b_Mo_owner 24 = .ok (.getfield 13, 3) := by decide +kernel
theorem d_Mo_owner_27 : decode b_Mo_owner 27 = .ok (.iload_n 1, 1) := by decide +kernel
theorem d_Mo_owner_28 : decode b_Mo_owner 28 = .ok (.iaload, 1) := by decide +kernel
theorem d_Mo_owner_29 : decode b_Mo_owner 29 = .ok (.goto 4, 3) := by decide +kernel
theorem d_Mo_owner_32 : decode b_Mo_owner 32 = .ok (.iconst (-1), 1) := by decide +kernel
theorem d_Mo_owner_33 : decode b_Mo_owner 33 = .ok (.ireturn, 1) := by decide +kernel
theorem d_Mo_credentials_0 : decode b_Mo_credentials 0 = .ok (.aload_n 0, 1) := by decide +kernel
theorem d_Mo_credentials_1 : decode b_Mo_credentials 1 = .ok (.iconst 0, 1) := by decide +kernel
theorem d_Mo_credentials_2 : decode b_Mo_credentials 2 = .ok (.putfield 93, 3) := by decide +kernel
theorem d_Mo_credentials_5 : decode b_Mo_credentials 5 = .ok (.aload_n 0, 1) := by decide +kernel
theorem d_Mo_credentials_6 : decode b_Mo_credentials 6 = .ok (.getfield 134, 3) := by decide +kernel
theorem d_Mo_credentials_9 : decode b_Mo_credentials 9 = .ok (.ireturn, 1) := by decide +kernel
theorem d_Mo_valid_0 : decode b_Mo_valid 0 = .ok (.aload_n 0, 1) := by decide +kernel
theorem d_Mo_valid_1 : decode b_Mo_valid 1 = .ok (.iconst 0, 1) := by decide +kernel
theorem d_Mo_valid_2 : decode b_Mo_valid 2 = .ok (.putfield 93, 3) := by decide +kernel
theorem d_Mo_valid_5 : decode b_Mo_valid 5 = .ok (.aload_n 0, 1) := by decide +kernel
theorem d_Mo_valid_6 : decode b_Mo_valid 6 = .ok (.iload_n 1, 1) := by decide +kernel
theorem d_Mo_valid_7 : decode b_Mo_valid 7 = .ok (.invokevirtual 147, 3) := by decide +kernel
theorem d_Mo_valid_10 : decode b_Mo_valid 10 = .ok (.ireturn, 1) := by decide +kernel
theorem d_Mo_grants_0 : decode b_Mo_grants 0 = .ok (.aload_n 0, 1) := by decide +kernel
theorem d_Mo_grants_1 : decode b_Mo_grants 1 = .ok (.iconst 0, 1) := by decide +kernel
theorem d_Mo_grants_2 : decode b_Mo_grants 2 = .ok (.putfield 93, 3) := by decide +kernel
theorem d_Mo_grants_5 : decode b_Mo_grants 5 = .ok (.aload_n 0, 1) := by decide +kernel
theorem d_Mo_grants_6 : decode b_Mo_grants 6 = .ok (.getfield 228, 3) := by decide +kernel
theorem d_Mo_grants_9 : decode b_Mo_grants 9 = .ok (.ireturn, 1) := by decide +kernel
theorem d_Mo_chain_0 : decode b_Mo_chain 0 = .ok (.aload_n 0, 1) := by decide +kernel
theorem d_Mo_chain_1 : decode b_Mo_chain 1 = .ok (.iconst 0, 1) := by decide +kernel
theorem d_Mo_chain_2 : decode b_Mo_chain 2 = .ok (.putfield 93, 3) := by decide +kernel
theorem d_Mo_chain_5 : decode b_Mo_chain 5 = .ok (.aload_n 0, 1) := by decide +kernel
theorem d_Mo_chain_6 : decode b_Mo_chain 6 = .ok (.getfield 225, 3) := by decide +kernel
theorem d_Mo_chain_9 : decode b_Mo_chain 9 = .ok (.ireturn, 1) := by decide +kernel
end
section
theorem d_AL_init_0 : decode b_AL_init 0 = .ok (.aload_n 0, 1) := by decide +kernel
theorem d_AL_init_1 : decode b_AL_init 1 = .ok (.invokespecial 1, 3) := by decide +kernel
theorem d_AL_init_4 : decode b_AL_init 4 = .ok (.aload_n 0, 1) := by decide +kernel
theorem d_AL_init_5 : decode b_AL_init 5 = .ok (.getstatic 39, 3) := by decide +kernel
theorem d_AL_init_8 : decode b_AL_init 8 = .ok (.putfield 9, 3) := by decide +kernel
theorem d_AL_init_11 : decode b_AL_init 11 = .ok (.return_, 1) := by decide +kernel
theorem d_Ab_init_0 : decode b_Ab_init 0 = .ok (.aload_n 0, 1) := by decide +kernel
theorem d_Ab_init_1 : decode b_Ab_init 1 = .ok (.invokespecial 1, 3) := by decide +kernel
theorem d_Ab_init_4 : decode b_Ab_init 4 = .ok (.aload_n 0, 1) := by decide +kernel
theorem d_Ab_init_5 : decode b_Ab_init 5 = .ok (.iconst 0, 1) := by decide +kernel
theorem d_Ab_init_6 : decode b_Ab_init 6 = .ok (.putfield 7, 3) := by decide +kernel
theorem d_Ab_init_9 : decode b_Ab_init 9 = .ok (.return_, 1) := by decide +kernel
theorem d_Ac_init_0 : decode b_Ac_init 0 = .ok (.aload_n 0, 1) := by decide +kernel
theorem d_Ac_init_1 : decode b_Ac_init 1 = .ok (.invokespecial 1, 3) := by decide +kernel
theorem d_Ac_init_4 : decode b_Ac_init 4 = .ok (.return_, 1) := by decide +kernel
theorem d_Ar_fill_0 : decode b_Ar_fill 0 = .ok (.iconst 0, 1) := by decide +kernel
theorem d_Ar_fill_1 : decode b_Ar_fill 1 = .ok (.istore_n 2, 1) := by decide +kernel
theorem d_Ar_fill_2 : decode b_Ar_fill 2 = .ok (.aload_n 0, 1) := by decide +kernel
theorem d_Ar_fill_3 : decode b_Ar_fill 3 = .ok (.arraylength, 1) := by decide +kernel
theorem d_Ar_fill_4 : decode b_Ar_fill 4 = .ok (.istore_n 3, 1) := by decide +kernel
theorem d_Ar_fill_5 : decode b_Ar_fill 5 = .ok (.iload_n 2, 1) := by decide +kernel
theorem d_Ar_fill_6 : decode b_Ar_fill 6 = .ok (.iload_n 3, 1) := by decide +kernel
theorem d_Ar_fill_7 : decode b_Ar_fill 7 = .ok (.if_icmp .ge 13, 3) := by decide +kernel
theorem d_Ar_fill_10 : decode b_Ar_fill 10 = .ok (.aload_n 0, 1) := by decide +kernel
theorem d_Ar_fill_11 : decode b_Ar_fill 11 = .ok (.iload_n 2, 1) := by decide +kernel
theorem d_Ar_fill_12 : decode b_Ar_fill 12 = .ok (.iload_n 1, 1) := by decide +kernel
theorem d_Ar_fill_13 : decode b_Ar_fill 13 = .ok (.iastore, 1) := by decide +kernel
theorem d_Ar_fill_14 : decode b_Ar_fill 14 = .ok (.iinc 2 1, 3) := by decide +kernel
theorem d_Ar_fill_17 : decode b_Ar_fill 17 = .ok (.goto (-12), 3) := by decide +kernel
theorem d_Ar_fill_20 : decode b_Ar_fill 20 = .ok (.return_, 1) := by decide +kernel
theorem d_AL_size_0 : decode b_AL_size 0 = .ok (.aload_n 0, 1) := by decide +kernel
theorem d_AL_size_1 : decode b_AL_size 1 = .ok (.getfield 48, 3) := by decide +kernel
theorem d_AL_size_4 : decode b_AL_size 4 = .ok (.ireturn, 1) := by decide +kernel
theorem d_AL_get_0 : decode b_AL_get 0 = .ok (.iload_n 1, 1) := by decide +kernel
theorem d_AL_get_1 : decode b_AL_get 1 = .ok (.aload_n 0, 1) := by decide +kernel
theorem d_AL_get_2 : decode b_AL_get 2 = .ok (.getfield 48, 3) := by decide +kernel
theorem d_AL_get_5 : decode b_AL_get 5 = .ok (.invokestatic 118, 3) := by decide +kernel
theorem d_AL_get_8 : decode b_AL_get 8 = .ok (.pop, 1) := by decide +kernel
theorem d_AL_get_9 : decode b_AL_get 9 = .ok (.aload_n 0, 1) := by decide +kernel
theorem d_AL_get_10 : decode b_AL_get 10 = .ok (.iload_n 1, 1) := by decide +kernel
theorem d_AL_get_11 : decode b_AL_get 11 = .ok (.invokevirtual 123, 3) := by decide +kernel
theorem d_AL_get_14 : decode b_AL_get 14 = .ok (.areturn, 1) := by decide +kernel
theorem d_Ob_checkIndex_0 : decode b_Ob_checkIndex 0 = .ok (.iload_n 0, 1) := by decide +kernel
theorem d_Ob_checkIndex_1 : decode b_Ob_checkIndex 1 = .ok (.iload_n 1, 1) := by decide +kernel
theorem d_Ob_checkIndex_2 : decode b_Ob_checkIndex 2 = .ok (.aconst_null, 1) := by decide +kernel
theorem d_Ob_checkIndex_3 : decode b_Ob_checkIndex 3 = .ok (.invokestatic 105, 3) := by decide +kernel
theorem d_Ob_checkIndex_6 : decode b_Ob_checkIndex 6 = .ok (.ireturn, 1) := by decide +kernel
theorem d_Pr_checkIndex_0 : decode b_Pr_checkIndex 0 = .ok (.iload_n 0, 1) := by decide +kernel
theorem d_Pr_checkIndex_1 : decode b_Pr_checkIndex 1 = .ok (.ifCond .lt 8, 3) := by decide +kernel
theorem d_Pr_checkIndex_4 : decode b_Pr_checkIndex 4 = .ok (.iload_n 0, 1) := by decide +kernel
theorem d_Pr_checkIndex_5 : decode b_Pr_checkIndex 5 = .ok (.iload_n 1, 1) := by decide +kernel
theorem d_Pr_checkIndex_6 : decode b_Pr_checkIndex 6 = .ok (.if_icmp .lt 10, 3) := by decide +kernel
theorem d_Pr_checkIndex_9 : decode b_Pr_checkIndex 9 = .ok (.aload_n 2, 1) := by decide +kernel
theorem d_Pr_checkIndex_10 : decode b_Pr_checkIndex 10 = .ok (.iload_n 0, 1) := by decide +kernel
theorem d_Pr_checkIndex_11 : decode b_Pr_checkIndex 11 = .ok (.iload_n 1, 1) := by decide +kernel
theorem d_Pr_checkIndex_12 : decode b_Pr_checkIndex 12 = .ok (.invokestatic 95, 3) := by decide +kernel
theorem d_Pr_checkIndex_15 : decode b_Pr_checkIndex 15 = .ok (.athrow, 1) := by decide +kernel
theorem d_Pr_checkIndex_16 : decode b_Pr_checkIndex 16 = .ok (.iload_n 0, 1) := by decide +kernel
theorem d_Pr_checkIndex_17 : decode b_Pr_checkIndex 17 = .ok (.ireturn, 1) := by decide +kernel
theorem d_AL_elementData_0 : decode b_AL_elementData 0 = .ok (.aload_n 0, 1) := by decide +kernel
theorem d_AL_elementData_1 : decode b_AL_elementData 1 = .ok (.getfield 9, 3) := by decide +kernel
theorem d_AL_elementData_4 : decode b_AL_elementData 4 = .ok (.iload_n 1, 1) := by decide +kernel
theorem d_AL_elementData_5 : decode b_AL_elementData 5 = .ok (.aaload, 1) := by decide +kernel
theorem d_AL_elementData_6 : decode b_AL_elementData 6 = .ok (.areturn, 1) := by decide +kernel
theorem d_Ma_min_0 : decode b_Ma_min 0 = .ok (.iload_n 0, 1) := by decide +kernel
theorem d_Ma_min_1 : decode b_Ma_min 1 = .ok (.iload_n 1, 1) := by decide +kernel
theorem d_Ma_min_2 : decode b_Ma_min 2 = .ok (.if_icmp .gt 7, 3) := by decide +kernel
theorem d_Ma_min_5 : decode b_Ma_min 5 = .ok (.iload_n 0, 1) := by decide +kernel
theorem d_Ma_min_6 : decode b_Ma_min 6 = .ok (.goto 4, 3) := by decide +kernel
theorem d_Ma_min_9 : decode b_Ma_min 9 = .ok (.iload_n 1, 1) := by decide +kernel
theorem d_Ma_min_10 : decode b_Ma_min 10 = .ok (.ireturn, 1) := by decide +kernel
theorem d_AL_add_0 : decode b_AL_add 0 = .ok (.aload_n 0, 1) := by decide +kernel
theorem d_AL_add_1 : decode b_AL_add 1 = .ok (.dup, 1) := by decide +kernel
theorem d_AL_add_2 : decode b_AL_add 2 = .ok (.getfield 63, 3) := by decide +kernel
theorem d_AL_add_5 : decode b_AL_add 5 = .ok (.iconst 1, 1) := by decide +kernel
theorem d_AL_add_6 : decode b_AL_add 6 = .ok (.iadd, 1) := by decide +kernel
theorem d_AL_add_7 : decode b_AL_add 7 = .ok (.putfield 63, 3) := by decide +kernel
theorem d_AL_add_10 : decode b_AL_add 10 = .ok (.aload_n 0, 1) := by decide +kernel
theorem d_AL_add_11 : decode b_AL_add 11 = .ok (.aload_n 1, 1) := by decide +kernel
theorem d_AL_add_12 : decode b_AL_add 12 = .ok (.aload_n 0, 1) := by decide +kernel
theorem d_AL_add_13 : decode b_AL_add 13 = .ok (.getfield 9, 3) := by decide +kernel
theorem d_AL_add_16 : decode b_AL_add 16 = .ok (.aload_n 0, 1) := by decide +kernel
theorem d_AL_add_17 : decode b_AL_add 17 = .ok (.getfield 48, 3) := by decide +kernel
theorem d_AL_add_20 : decode b_AL_add 20 = .ok (.invokevirtual 131, 3) := by decide +kernel
theorem d_AL_add_23 : decode b_AL_add 23 = .ok (.iconst 1, 1) := by decide +kernel
theorem d_AL_add_24 : decode b_AL_add 24 = .ok (.ireturn, 1) := by decide +kernel
theorem d_AL_add2_0 : decode b_AL_add2 0 = .ok (.iload_n 3, 1) := by decide +kernel
theorem d_AL_add2_1 : decode b_AL_add2 1 = .ok (.aload_n 2, 1) := by decide +kernel
theorem d_AL_add2_2 : decode b_AL_add2 2 = .ok (.arraylength, 1) := by decide +kernel
theorem d_AL_add2_3 : decode b_AL_add2 3 = .ok (.if_icmp .ne 8, 3) := by decide +kernel
theorem d_AL_add2_6 : decode b_AL_add2 6 = .ok (.aload_n 0, 1) := by decide +kernel
theorem d_AL_add2_7 : decode b_AL_add2 7 = .ok (.invokevirtual 129, 3) := by decide +kernel
theorem d_AL_add2_10 : decode b_AL_add2 10 = .ok (.astore_n 2, 1) := by decide +kernel
theorem d_AL_add2_11 : decode b_AL_add2 11 = .ok (.aload_n 2, 1) := by decide +kernel
theorem d_AL_add2_12 : decode b_AL_add2 12 = .ok (.iload_n 3, 1) := by decide +kernel
theorem d_AL_add2_13 : decode b_AL_add2 13 = .ok (.aload_n 1, 1) := by decide +kernel
theorem d_AL_add2_14 : decode b_AL_add2 14 = .ok (.aastore, 1) := by decide +kernel
theorem d_AL_add2_15 : decode b_AL_add2 15 = .ok (.aload_n 0, 1) := by decide +kernel
theorem d_AL_add2_16 : decode b_AL_add2 16 = .ok (.iload_n 3, 1) := by decide +kernel
theorem d_AL_add2_17 : decode b_AL_add2 17 = .ok (.iconst 1, 1) := by decide +kernel
theorem d_AL_add2_18 : decode b_AL_add2 18 = .ok (.iadd, 1) := by decide +kernel
theorem d_AL_add2_19 : decode b_AL_add2 19 = .ok (.putfield 48, 3) := by decide +kernel
theorem d_AL_add2_22 : decode b_AL_add2 22 = .ok (.return_, 1) := by decide +kernel
theorem d_AL_grow_0 : decode b_AL_grow 0 = .ok (.aload_n 0, 1) := by decide +kernel
theorem d_AL_grow_1 : decode b_AL_grow 1 = .ok (.aload_n 0, 1) := by decide +kernel
theorem d_AL_grow_2 : decode b_AL_grow 2 = .ok (.getfield 48, 3) := by decide +kernel
theorem d_AL_grow_5 : decode b_AL_grow 5 = .ok (.iconst 1, 1) := by decide +kernel
theorem d_AL_grow_6 : decode b_AL_grow 6 = .ok (.iadd, 1) := by decide +kernel
theorem d_AL_grow_7 : decode b_AL_grow 7 = .ok (.invokevirtual 69, 3) := by decide +kernel
theorem d_AL_grow_10 : decode b_AL_grow 10 = .ok (.areturn, 1) := by decide +kernel
theorem d_AL_grow2_0 : decode b_AL_grow2 0 = .ok (.aload_n 0, 1) := by decide +kernel
theorem d_AL_grow2_1 : decode b_AL_grow2 1 = .ok (.getfield 9, 3) := by decide +kernel
theorem d_AL_grow2_4 : decode b_AL_grow2 4 = .ok (.arraylength, 1) := by decide +kernel
theorem d_AL_grow2_5 : decode b_AL_grow2 5 = .ok (.istore_n 2, 1) := by decide +kernel
theorem d_AL_grow2_6 : decode b_AL_grow2 6 = .ok (.iload_n 2, 1) := by decide +kernel
theorem d_AL_grow2_7 : decode b_AL_grow2 7 = .ok (.ifCond .gt 13, 3) := by decide +kernel
theorem d_AL_grow2_10 : decode b_AL_grow2 10 = .ok (.aload_n 0, 1) := by decide +kernel
theorem d_AL_grow2_11 : decode b_AL_grow2 11 = .ok (.getfield 9, 3) := by decide +kernel
theorem d_AL_grow2_14 : decode b_AL_grow2 14 = .ok (.getstatic 39, 3) := by decide +kernel
theorem d_AL_grow2_17 : decode b_AL_grow2 17 = .ok (.if_acmp .eq 28, 3) := by decide +kernel
theorem d_AL_grow2_20 : decode b_AL_grow2 20 = .ok (.iload_n 2, 1) := by decide +kernel
theorem d_AL_grow2_21 : decode b_AL_grow2 21 = .ok (.iload_n 1, 1) := by decide +kernel
theorem d_AL_grow2_22 : decode b_AL_grow2 22 = .ok (.iload_n 2, 1) := by decide +kernel
theorem d_AL_grow2_23 : decode b_AL_grow2 23 = .ok (.isub, 1) := by decide +kernel
theorem d_AL_grow2_24 : decode b_AL_grow2 24 = .ok (.iload_n 2, 1) := by decide +kernel
theorem d_AL_grow2_25 : decode b_AL_grow2 25 = .ok (.iconst 1, 1) := by decide +kernel
theorem d_AL_grow2_26 : decode b_AL_grow2 26 = .ok (.ishr, 1) := by decide +kernel
theorem d_AL_grow2_27 : decode b_AL_grow2 27 = .ok (.invokestatic 73, 3) := by decide +kernel
theorem d_AL_grow2_30 : decode b_AL_grow2 30 = .ok (.istore_n 3, 1) := by decide +kernel
theorem d_AL_grow2_31 : decode b_AL_grow2 31 = .ok (.aload_n 0, 1) := by decide +kernel
theorem d_AL_grow2_32 : decode b_AL_grow2 32 = .ok (.aload_n 0, 1) := by decide +kernel
theorem d_AL_grow2_33 : decode b_AL_grow2 33 = .ok (.getfield 9, 3) := by decide +kernel
theorem d_AL_grow2_36 : decode b_AL_grow2 36 = .ok (.iload_n 3, 1) := by decide +kernel
theorem d_AL_grow2_37 : decode b_AL_grow2 37 = .ok (.invokestatic 66, 3) := by decide +kernel
theorem d_AL_grow2_40 : decode b_AL_grow2 40 = .ok (.dup_x1, 1) := by decide +kernel
theorem d_AL_grow2_41 : decode b_AL_grow2 41 = .ok (.putfield 9, 3) := by decide +kernel
theorem d_AL_grow2_44 : decode b_AL_grow2 44 = .ok (.areturn, 1) := by decide +kernel
theorem d_AL_grow2_45 : decode b_AL_grow2 45 = .ok (.aload_n 0, 1) := by decide +kernel
theorem d_AL_grow2_46 : decode b_AL_grow2 46 = .ok (.bipush 10, 2) := by decide +kernel
theorem d_AL_grow2_48 : decode b_AL_grow2 48 = .ok (.iload_n 1, 1) := by decide +kernel
theorem d_AL_grow2_49 : decode b_AL_grow2 49 = .ok (.invokestatic 79, 3) := by decide +kernel
theorem d_AL_grow2_52 : decode b_AL_grow2 52 = .ok (.anewarray 7, 3) := by decide +kernel
theorem d_AL_grow2_55 : decode b_AL_grow2 55 = .ok (.dup_x1, 1) := by decide +kernel
theorem d_AL_grow2_56 : decode b_AL_grow2 56 = .ok (.putfield 9, 3) := by decide +kernel
theorem d_AL_grow2_59 : decode b_AL_grow2 59 = .ok (.areturn, 1) := by decide +kernel
theorem d_As_newLength_0 : decode b_As_newLength 0 = .ok (.iload_n 0, 1) := by decide +kernel
theorem d_As_newLength_1 : decode b_As_newLength 1 = .ok (.iload_n 1, 1) := by decide +kernel
theorem d_As_newLength_2 : decode b_As_newLength 2 = .ok (.iload_n 2, 1) := by decide +kernel
theorem d_As_newLength_3 : decode b_As_newLength 3 = .ok (.invokestatic 194, 3) := by decide +kernel
theorem d_As_newLength_6 : decode b_As_newLength 6 = .ok (.iadd, 1) := by decide +kernel
theorem d_As_newLength_7 : decode b_As_newLength 7 = .ok (.istore_n 3, 1) := by decide +kernel
theorem d_As_newLength_8 : decode b_As_newLength 8 = .ok (.iconst 0, 1) := by decide +kernel
theorem d_As_newLength_9 : decode b_As_newLength 9 = .ok (.iload_n 3, 1) := by decide +kernel
theorem d_As_newLength_10 : decode b_As_newLength 10 = .ok (.if_icmp .ge 11, 3) := by decide +kernel
theorem d_As_newLength_13 : decode b_As_newLength 13 = .ok (.iload_n 3, 1) := by decide +kernel
theorem d_As_newLength_14 : decode b_As_newLength 14 = .ok (.ldc 200, 2) := by decide +kernel
theorem d_As_newLength_16 : decode b_As_newLength 16 = .ok (.if_icmp .gt 5, 3) := by decide +kernel
theorem d_As_newLength_19 : decode b_As_newLength 19 = .ok (.iload_n 3, 1) := by decide +kernel
theorem d_As_newLength_20 : decode b_As_newLength 20 = .ok (.ireturn, 1) := by decide +kernel
theorem d_As_newLength_21 : decode b_As_newLength 21 = .ok (.iload_n 0, 1) := by decide +kernel
theorem d_As_newLength_22 : decode b_As_newLength 22 = .ok (.iload_n 1, 1) := by decide +kernel
theorem d_As_newLength_23 : decode b_As_newLength 23 = .ok (.invokestatic 201, 3) := by decide +kernel
theorem d_As_newLength_26 : decode b_As_newLength 26 = .ok (.ireturn, 1) := by decide +kernel
theorem d_Ma_max_0 : decode b_Ma_max 0 = .ok (.iload_n 0, 1) := by decide +kernel
theorem d_Ma_max_1 : decode b_Ma_max 1 = .ok (.iload_n 1, 1) := by decide +kernel
theorem d_Ma_max_2 : decode b_Ma_max 2 = .ok (.if_icmp .lt 7, 3) := by decide +kernel
theorem d_Ma_max_5 : decode b_Ma_max 5 = .ok (.iload_n 0, 1) := by decide +kernel
theorem d_Ma_max_6 : decode b_Ma_max 6 = .ok (.goto 4, 3) := by decide +kernel
theorem d_Ma_max_9 : decode b_Ma_max 9 = .ok (.iload_n 1, 1) := by decide +kernel
theorem d_Ma_max_10 : decode b_Ma_max 10 = .ok (.ireturn, 1) := by decide +kernel
theorem d_Ar_copyOf_0 : decode b_Ar_copyOf 0 = .ok (.aload_n 0, 1) := by decide +kernel
theorem d_Ar_copyOf_1 : decode b_Ar_copyOf 1 = .ok (.iload_n 1, 1) := by decide +kernel
theorem d_Ar_copyOf_2 : decode b_Ar_copyOf 2 = .ok (.aload_n 0, 1) := by decide +kernel
theorem d_Ar_copyOf_3 : decode b_Ar_copyOf 3 = .ok (.invokevirtual 86, 3) := by decide +kernel
theorem d_Ar_copyOf_6 : decode b_Ar_copyOf 6 = .ok (.invokestatic 300, 3) := by decide +kernel
theorem d_Ar_copyOf_9 : decode b_Ar_copyOf 9 = .ok (.areturn, 1) := by decide +kernel
theorem d_Ar_copyOf2_0 : decode b_Ar_copyOf2 0 = .ok (.aload_n 2, 1) := by decide +kernel
theorem d_Ar_copyOf2_1 : decode b_Ar_copyOf2 1 = .ok (.ldc 110, 2) := by decide +kernel
theorem d_Ar_copyOf2_3 : decode b_Ar_copyOf2 3 = .ok (.if_acmp .ne 10, 3) := by decide +kernel
theorem d_Ar_copyOf2_6 : decode b_Ar_copyOf2 6 = .ok (.iload_n 1, 1) := by decide +kernel
theorem d_Ar_copyOf2_7 : decode b_Ar_copyOf2 7 = .ok (.anewarray 2, 3) := by decide +kernel
theorem d_Ar_copyOf2_10 : decode b_Ar_copyOf2 10 = .ok (.goto 14, 3) := by decide +kernel
theorem d_Ar_copyOf2_13 : decode b_Ar_copyOf2 13 = .ok (.aload_n 2, 1) := by decide +kernel
theorem d_Ar_copyOf2_14 : decode b_Ar_copyOf2 14 = .ok (.invokevirtual 90, 3) := by decide +kernel
theorem d_Ar_copyOf2_17 : decode b_Ar_copyOf2 17 = .ok (.iload_n 1, 1) := by decide +kernel
theorem d_Ar_copyOf2_18 : decode b_Ar_copyOf2 18 = .ok (.invokestatic 95, 3) := by decide +kernel
theorem d_Ar_copyOf2_21 : decode b_Ar_copyOf2 21 = .ok (.checkcast 110, 3) := by decide +kernel
theorem d_Ar_copyOf2_24 : decode b_Ar_copyOf2 24 = .ok (.astore_n 3, 1) := by decide +kernel
theorem d_Ar_copyOf2_25 : decode b_Ar_copyOf2 25 = .ok (.aload_n 0, 1) := by decide +kernel
theorem d_Ar_copyOf2_26 : decode b_Ar_copyOf2 26 = .ok (.iconst 0, 1) := by decide +kernel
theorem d_Ar_copyOf2_27 : decode b_Ar_copyOf2 27 = .ok (.aload_n 3, 1) := by decide +kernel
theorem d_Ar_copyOf2_28 : decode b_Ar_copyOf2 28 = .ok (.iconst 0, 1) := by decide +kernel
theorem d_Ar_copyOf2_29 : decode b_Ar_copyOf2 29 = .ok (.aload_n 0, 1) := by decide +kernel
theorem d_Ar_copyOf2_30 : decode b_Ar_copyOf2 30 = .ok (.arraylength, 1) := by decide +kernel
theorem d_Ar_copyOf2_31 : decode b_Ar_copyOf2 31 = .ok (.iload_n 1, 1) := by decide +kernel
theorem d_Ar_copyOf2_32 : decode b_Ar_copyOf2 32 = .ok (.invokestatic 304, 3) := by decide +kernel
theorem d_Ar_copyOf2_35 : decode b_Ar_copyOf2 35 = .ok (.invokestatic 150, 3) := by decide +kernel
theorem d_Ar_copyOf2_38 : decode b_Ar_copyOf2 38 = .ok (.aload_n 3, 1) := by decide +kernel
theorem d_Ar_copyOf2_39 : decode b_Ar_copyOf2 39 = .ok (.areturn, 1) := by decide +kernel
end
section
/-! Where things lie: the class's places 2 .. 25, its facts 100 .. 139, the reference's 400 .. 426; a Proof at b with its rows behind it; a credential -/
/-- a truth value as an int -/
def bi (P : Prop) [Decidable P] : Int32 := if P then 1 else 0
theorem bi_t {P : Prop} [Decidable P] (h : P) : bi P = 1 := if_pos h
theorem bi_f {P : Prop} [Decidable P] (h : ¬ P) : bi P = 0 := if_neg h
theorem bi_0 {P : Prop} [Decidable P] : bi P = 0 ↔ ¬ P := by
  by_cases h : P
  · rw [bi_t h]; exact ⟨fun e => absurd e (by decide), fun e => absurd h e⟩
  · rw [bi_f h]; exact ⟨fun _ => h, fun _ => rfl⟩
theorem bi_n {P : Prop} [Decidable P] : narrow .boolean (.int (bi P)) = .int (bi P) := by
  by_cases h : P
  · rw [bi_t h]; rfl
  · rw [bi_f h]; rfl
theorem bi_fit {P : Prop} [Decidable P] : fits .boolean (.int (bi P)) = true := by
  by_cases h : P
  · rw [bi_t h]; rfl
  · rw [bi_f h]; rfl
theorem bi_c {P Q : Prop} [Decidable P] [Decidable Q] (h : P ↔ Q) : bi P = bi Q := by
  by_cases hp : P
  · rw [bi_t hp, bi_t (h.mp hp)]
  · rw [bi_f hp, bi_f (fun q => hp (h.mpr q))]
theorem gT {P : Prop} [Decidable P] {L : gLy} {M : gMe} (h : P) : gPo (some (.int (bi P))) L M (some (.int 1)) L M := ⟨by rw [bi_t h], rfl, rfl⟩
theorem gN {P : Prop} [Decidable P] {L : gLy} {M : gMe} (h : ¬ P) : gPo (some (.int (bi P))) L M (some (.int 0)) L M := ⟨by rw [bi_f h], rfl, rfl⟩
theorem gX {x z : Int32} {L : gLy} {M : gMe} (h : z = x) : gPo (some (.int x)) L M (some (.int z)) L M := ⟨by rw [h], rfl, rfl⟩
section gBr
variable {l : Launch} {G : gG} {y : MethodName} {cc : ByteArray} {nL : Nat} {ret : Option FieldType} {R : Room} {mc ms : Nat} {Z : Nat → Prop} {post : Option Value → gLy → gMe → Prop} {L : gLy} {M : gMe} {cells slots : Nat} {lv : List (Option Value)} {pc : Nat} {st : List Value}
theorem V_bz (t q : Nat) {P : Prop} [Decidable P] {off : Int} (d : decode cc pc = .ok (.ifCond .eq off, 3)) (ht : (pc : Int) + off = (t : Int)) (hq : pc + 3 = q) (kt : ¬ P → V l G y cc nL ret R mc ms Z post L M cells slots lv t st) (kf : P → V l G y cc nL ret R mc ms Z post L M cells slots lv q st) : V l G y cc nL ret R mc ms Z post L M cells slots lv pc (.int (bi P) :: st) :=
  V_if_eq t q d ht hq (fun h => kt (bi_0.mp h)) (fun h => kf (Decidable.not_not.mp (fun e => h (bi_0.mpr e))))
theorem V_bn (t q : Nat) {P : Prop} [Decidable P] {off : Int} (d : decode cc pc = .ok (.ifCond .ne off, 3)) (ht : (pc : Int) + off = (t : Int)) (hq : pc + 3 = q) (kt : P → V l G y cc nL ret R mc ms Z post L M cells slots lv t st) (kf : ¬ P → V l G y cc nL ret R mc ms Z post L M cells slots lv q st) : V l G y cc nL ret R mc ms Z post L M cells slots lv pc (.int (bi P) :: st) :=
  V_if_ne t q d ht hq (fun h => kt (Decidable.not_not.mp (fun e => h (bi_0.mpr e)))) (fun h => kf (bi_0.mp h))
/-- the value on top, another name -/
theorem V_top {v w : Value} (h : v = w) (kk : V l G y cc nL ret R mc ms Z post L M cells slots lv pc (w :: st)) : V l G y cc nL ret R mc ms Z post L M cells slots lv pc (v :: st) := by
  subst h; exact kk
theorem V_topi {x z : Int32} (h : x = z) (kk : V l G y cc nL ret R mc ms Z post L M cells slots lv pc (.int z :: st)) : V l G y cc nL ret R mc ms Z post L M cells slots lv pc (.int x :: st) := by
  subst h; exact kk
end gBr
abbrev kI : gK := .inl (0, 6, none)
def gLP (L : gLy) (b : Nat) : Prop := L b = some (.inr (7, [some (.ref (b + 1)), some (.ref (b + 2)), some (.ref (b + 3)), none])) ∧ L (b + 1) = some (.inl (0, 40, none)) ∧ L (b + 2) = some (.inl (0, 40, none)) ∧ L (b + 3) = some (.inl (0, 40, none))
def gLF (L : gLy) (b : Nat) : Prop := L b = some (.inr (5, [none, none, none, none, none, none]))
def gLR (L : gLy) (c n : Nat) : Prop := L c = some (.inr (3, [none, none, some (.ref n), none, none, none])) ∧ L n = some (.inl (0, 4, none))
/-- the class's own places but its list -/
def gLC (L : gLy) : Prop :=
  L 2 = some (.inr (9, [none, some (.ref 3), some (.ref 4), some (.ref 6), some (.ref 10), some (.ref 20), some (.ref 22), some (.ref 23), some (.ref 24), some (.ref 25)])) ∧
  L 3 = some (.inl (0, 4, none)) ∧
  L 4 = some (.inr (4, [some (.ref 5), none])) ∧
  gLP L 6 ∧
  L 10 = some (.inr (8, [some (.ref 4), some (.ref 11), some (.ref 15), some (.ref 16), some (.ref 17), some (.ref 18), some (.ref 19), none, none])) ∧
  gLP L 11 ∧
  L 15 = some (.inl (0, 756, none)) ∧ L 16 = some (.inl (0, 756, none)) ∧ L 17 = some (.inl (0, 756, none)) ∧ L 18 = some (.inl (0, 756, none)) ∧ L 19 = some (.inl (0, 756, none)) ∧
  L 20 = some (.inr (2, [some (.ref 4), some (.ref 21)])) ∧
  L 21 = some (.inl (3, 40, some (some (fun k => if k < 40 then some (100 + k) else none)))) ∧
  L 22 = some (.inr (1, [none, none])) ∧
  L 23 = some (.inr (6, [none])) ∧
  L 24 = some (.inl (0, 6, none)) ∧ L 25 = some (.inl (0, 6, none)) ∧
  ∀ k, k < 40 → gLF L (100 + k)
theorem lC2 {L : gLy} (h : gLC L) : L 2 = some (.inr (9, [none, some (.ref 3), some (.ref 4), some (.ref 6), some (.ref 10), some (.ref 20), some (.ref 22), some (.ref 23), some (.ref 24), some (.ref 25)])) := h.1
theorem lC3 {L : gLy} (h : gLC L) : L 3 = some (.inl (0, 4, none)) := h.2.1
theorem lC4 {L : gLy} (h : gLC L) : L 4 = some (.inr (4, [some (.ref 5), none])) := h.2.2.1
theorem lC6 {L : gLy} (h : gLC L) : gLP L 6 := h.2.2.2.1
theorem lC10 {L : gLy} (h : gLC L) : L 10 = some (.inr (8, [some (.ref 4), some (.ref 11), some (.ref 15), some (.ref 16), some (.ref 17), some (.ref 18), some (.ref 19), none, none])) := h.2.2.2.2.1
theorem lC11 {L : gLy} (h : gLC L) : gLP L 11 := h.2.2.2.2.2.1
theorem lC15 {L : gLy} (h : gLC L) : L 15 = some (.inl (0, 756, none)) := h.2.2.2.2.2.2.1
theorem lC16 {L : gLy} (h : gLC L) : L 16 = some (.inl (0, 756, none)) := h.2.2.2.2.2.2.2.1
theorem lC17 {L : gLy} (h : gLC L) : L 17 = some (.inl (0, 756, none)) := h.2.2.2.2.2.2.2.2.1
theorem lC18 {L : gLy} (h : gLC L) : L 18 = some (.inl (0, 756, none)) := h.2.2.2.2.2.2.2.2.2.1
theorem lC19 {L : gLy} (h : gLC L) : L 19 = some (.inl (0, 756, none)) := h.2.2.2.2.2.2.2.2.2.2.1
theorem lC20 {L : gLy} (h : gLC L) : L 20 = some (.inr (2, [some (.ref 4), some (.ref 21)])) := h.2.2.2.2.2.2.2.2.2.2.2.1
theorem lC21 {L : gLy} (h : gLC L) : L 21 = some (.inl (3, 40, some (some (fun k => if k < 40 then some (100 + k) else none)))) := h.2.2.2.2.2.2.2.2.2.2.2.2.1
theorem lC22 {L : gLy} (h : gLC L) : L 22 = some (.inr (1, [none, none])) := h.2.2.2.2.2.2.2.2.2.2.2.2.2.1
theorem lC23 {L : gLy} (h : gLC L) : L 23 = some (.inr (6, [none])) := h.2.2.2.2.2.2.2.2.2.2.2.2.2.2.1
theorem lC24 {L : gLy} (h : gLC L) : L 24 = some (.inl (0, 6, none)) := h.2.2.2.2.2.2.2.2.2.2.2.2.2.2.2.1
theorem lC25 {L : gLy} (h : gLC L) : L 25 = some (.inl (0, 6, none)) := h.2.2.2.2.2.2.2.2.2.2.2.2.2.2.2.2.1
theorem lCF {L : gLy} (h : gLC L) {k : Nat} (hk : k < 40) : gLF L (100 + k) := h.2.2.2.2.2.2.2.2.2.2.2.2.2.2.2.2.2 k hk
/-- the reference -/
def fsM : List (Option Value) := [none, none, none, none, none, some (.ref 401), some (.ref 402), some (.ref 403), none, none, none, some (.ref 404), some (.ref 405), some (.ref 406), some (.ref 407), some (.ref 408), some (.ref 409), some (.ref 410), some (.ref 411), some (.ref 412), some (.ref 413), none, none, some (.ref 414), some (.ref 415), some (.ref 416), some (.ref 417), some (.ref 418), some (.ref 419), some (.ref 420), some (.ref 421), some (.ref 422), some (.ref 423), some (.ref 424), some (.ref 425), some (.ref 426), none, none]
def szM (a : Nat) : Nat × Nat := match a with
  | 401 => (1, 6)
  | 402 => (0, 6)
  | 403 => (0, 6)
  | 412 => (1, 25)
  | 413 => (0, 4)
  | 414 => (0, 40)
  | 415 => (0, 40)
  | 416 => (0, 40)
  | 417 => (0, 160)
  | 418 => (0, 760)
  | 419 => (0, 760)
  | 420 => (0, 760)
  | 421 => (0, 756)
  | 422 => (0, 756)
  | 423 => (0, 756)
  | 424 => (0, 756)
  | 425 => (0, 756)
  | 426 => (0, 760)
  | _ => (0, 25)
def gLM (L : gLy) : Prop := L 400 = some (.inr (10, fsM)) ∧ ∀ a, 401 ≤ a → a < 427 → L a = some (.inl ((szM a).1, (szM a).2, none))
theorem lM {L : gLy} (h : gLM L) : L 400 = some (.inr (10, fsM)) := h.1
theorem lM401 {L : gLy} (h : gLM L) : L 401 = some (.inl (1, 6, none)) := h.2 401 (by decide) (by decide)
theorem lM402 {L : gLy} (h : gLM L) : L 402 = some (.inl (0, 6, none)) := h.2 402 (by decide) (by decide)
theorem lM403 {L : gLy} (h : gLM L) : L 403 = some (.inl (0, 6, none)) := h.2 403 (by decide) (by decide)
theorem lM404 {L : gLy} (h : gLM L) : L 404 = some (.inl (0, 25, none)) := h.2 404 (by decide) (by decide)
theorem lM405 {L : gLy} (h : gLM L) : L 405 = some (.inl (0, 25, none)) := h.2 405 (by decide) (by decide)
theorem lM406 {L : gLy} (h : gLM L) : L 406 = some (.inl (0, 25, none)) := h.2 406 (by decide) (by decide)
theorem lM407 {L : gLy} (h : gLM L) : L 407 = some (.inl (0, 25, none)) := h.2 407 (by decide) (by decide)
theorem lM408 {L : gLy} (h : gLM L) : L 408 = some (.inl (0, 25, none)) := h.2 408 (by decide) (by decide)
theorem lM409 {L : gLy} (h : gLM L) : L 409 = some (.inl (0, 25, none)) := h.2 409 (by decide) (by decide)
theorem lM410 {L : gLy} (h : gLM L) : L 410 = some (.inl (0, 25, none)) := h.2 410 (by decide) (by decide)
theorem lM411 {L : gLy} (h : gLM L) : L 411 = some (.inl (0, 25, none)) := h.2 411 (by decide) (by decide)
theorem lM412 {L : gLy} (h : gLM L) : L 412 = some (.inl (1, 25, none)) := h.2 412 (by decide) (by decide)
theorem lM413 {L : gLy} (h : gLM L) : L 413 = some (.inl (0, 4, none)) := h.2 413 (by decide) (by decide)
theorem lM414 {L : gLy} (h : gLM L) : L 414 = some (.inl (0, 40, none)) := h.2 414 (by decide) (by decide)
theorem lM415 {L : gLy} (h : gLM L) : L 415 = some (.inl (0, 40, none)) := h.2 415 (by decide) (by decide)
theorem lM416 {L : gLy} (h : gLM L) : L 416 = some (.inl (0, 40, none)) := h.2 416 (by decide) (by decide)
theorem lM417 {L : gLy} (h : gLM L) : L 417 = some (.inl (0, 160, none)) := h.2 417 (by decide) (by decide)
theorem lM418 {L : gLy} (h : gLM L) : L 418 = some (.inl (0, 760, none)) := h.2 418 (by decide) (by decide)
theorem lM419 {L : gLy} (h : gLM L) : L 419 = some (.inl (0, 760, none)) := h.2 419 (by decide) (by decide)
theorem lM420 {L : gLy} (h : gLM L) : L 420 = some (.inl (0, 760, none)) := h.2 420 (by decide) (by decide)
theorem lM421 {L : gLy} (h : gLM L) : L 421 = some (.inl (0, 756, none)) := h.2 421 (by decide) (by decide)
theorem lM422 {L : gLy} (h : gLM L) : L 422 = some (.inl (0, 756, none)) := h.2 422 (by decide) (by decide)
theorem lM423 {L : gLy} (h : gLM L) : L 423 = some (.inl (0, 756, none)) := h.2 423 (by decide) (by decide)
theorem lM424 {L : gLy} (h : gLM L) : L 424 = some (.inl (0, 756, none)) := h.2 424 (by decide) (by decide)
theorem lM425 {L : gLy} (h : gLM L) : L 425 = some (.inl (0, 756, none)) := h.2 425 (by decide) (by decide)
theorem lM426 {L : gLy} (h : gLM L) : L 426 = some (.inl (0, 760, none)) := h.2 426 (by decide) (by decide)
end
section
/-! leaves: methods that call none of ours, or such alone -/
abbrev pPrin (p : Int32) : Prop := ¬ p < 0 ∧ ¬ 6 ≤ p
abbrev pNamed (p r o : Int32) : Prop := pPrin p ∧ ¬ r < 0 ∧ ¬ 4 ≤ r ∧ pPrin o
set_option maxRecDepth 100000 in
set_option maxHeartbeats 4000000 in
theorem c_Ga_isPrincipal (l : Launch) (G : gG) (L : gLy) (M : gMe) (p : Int32) : gMet l G y_Ga_isPrincipal b_Ga_isPrincipal 1 (some FieldType.boolean) (rmL 1 0 0) [.int p] L M gAll (gPo (some (.int (bi (pPrin p)))) L M) 0 0 := by
  refine gMet_of (lv := [some (.int p)]) (by decide) rfl (Nat.le_of_ble_eq_true rfl) rfl ?_
  refine V_il0 1 d_Ga_isPrincipal_0 rfl ?_
  refine V_if_lt 14 4 d_Ga_isPrincipal_1 (by decide) rfl (fun h1 => ?_) (fun h1 => ?_)
  · refine V_iconst 15 (v := 0) (by decide) d_Ga_isPrincipal_14 rfl ?_
    exact V_zret rfl rfl d_Ga_isPrincipal_15 (gN (fun h => h.1 h1))
  · refine V_il0 5 d_Ga_isPrincipal_4 rfl ?_
    refine V_bipush 7 (v := 6) (by decide) d_Ga_isPrincipal_5 rfl ?_
    refine V_icmp_ge 14 10 d_Ga_isPrincipal_7 (by decide) rfl (fun h7 => ?_) (fun h7 => ?_)
    · refine V_iconst 15 (v := 0) (by decide) d_Ga_isPrincipal_14 rfl ?_
      exact V_zret rfl rfl d_Ga_isPrincipal_15 (gN (fun h => h.2 h7))
    · refine V_iconst 11 (v := 1) (by decide) d_Ga_isPrincipal_10 rfl ?_
      refine V_goto 15 d_Ga_isPrincipal_11 (by decide) ?_
      exact V_zret rfl rfl d_Ga_isPrincipal_15 (gT ⟨h1, h7⟩)
set_option maxRecDepth 100000 in
set_option maxHeartbeats 4000000 in
theorem c_Ga_isObject (l : Launch) (G : gG) (L : gLy) (M : gMe) (p : Int32) : gMet l G y_Ga_isObject b_Ga_isObject 1 (some FieldType.boolean) (rmL 1 0 0) [.int p] L M gAll (gPo (some (.int (bi (pPrin p)))) L M) 0 0 := by
  refine gMet_of (lv := [some (.int p)]) (by decide) rfl (Nat.le_of_ble_eq_true rfl) rfl ?_
  refine V_il0 1 d_Ga_isObject_0 rfl ?_
  refine V_if_lt 14 4 d_Ga_isObject_1 (by decide) rfl (fun h1 => ?_) (fun h1 => ?_)
  · refine V_iconst 15 (v := 0) (by decide) d_Ga_isObject_14 rfl ?_
    exact V_zret rfl rfl d_Ga_isObject_15 (gN (fun h => h.1 h1))
  · refine V_il0 5 d_Ga_isObject_4 rfl ?_
    refine V_bipush 7 (v := 6) (by decide) d_Ga_isObject_5 rfl ?_
    refine V_icmp_ge 14 10 d_Ga_isObject_7 (by decide) rfl (fun h7 => ?_) (fun h7 => ?_)
    · refine V_iconst 15 (v := 0) (by decide) d_Ga_isObject_14 rfl ?_
      exact V_zret rfl rfl d_Ga_isObject_15 (gN (fun h => h.2 h7))
    · refine V_iconst 11 (v := 1) (by decide) d_Ga_isObject_10 rfl ?_
      refine V_goto 15 d_Ga_isObject_11 (by decide) ?_
      exact V_zret rfl rfl d_Ga_isObject_15 (gT ⟨h1, h7⟩)
set_option maxRecDepth 100000 in
set_option maxHeartbeats 4000000 in
theorem c_Ga_isNamed (l : Launch) (G : gG) (L : gLy) (M : gMe) (p r o : Int32) : gMet l G y_Ga_isNamed b_Ga_isNamed 3 (some FieldType.boolean) (rmL 2 0 0) [.int p, .int r, .int o] L M gAll (gPo (some (.int (bi (pNamed p r o)))) L M) 0 0 := by
  refine gMet_of (lv := [some (.int p), some (.int r), some (.int o)]) (by decide) rfl (Nat.le_of_ble_eq_true rfl) rfl ?_
  refine V_il0 1 d_Ga_isNamed_0 rfl ?_
  refine V_cS1 4 (c_Ga_isPrincipal l G _ _ p) ok_Ga_isPrincipal ml_Ga_225 st_Ga_isPrincipal (gRm_ok (by decide) (by decide)) rfl rfl (Nat.le_of_ble_eq_true rfl) d_Ga_isNamed_1 ⟨Nat.le_of_ble_eq_true rfl, Nat.le_of_ble_eq_true rfl⟩ rfl ?_
  refine V_bz 27 7 d_Ga_isNamed_4 (by decide) rfl (fun h4 => ?_) (fun h4 => ?_)
  · refine V_iconst 28 (v := 0) (by decide) d_Ga_isNamed_27 rfl ?_
    exact V_zret rfl rfl d_Ga_isNamed_28 (gN (fun h => h4 h.1))
  · refine V_il1 8 d_Ga_isNamed_7 rfl ?_
    refine V_if_lt 27 11 d_Ga_isNamed_8 (by decide) rfl (fun h8 => ?_) (fun h8 => ?_)
    · refine V_iconst 28 (v := 0) (by decide) d_Ga_isNamed_27 rfl ?_
      exact V_zret rfl rfl d_Ga_isNamed_28 (gN (fun h => h.2.1 h8))
    · refine V_il1 12 d_Ga_isNamed_11 rfl ?_
      refine V_iconst 13 (v := 4) (by decide) d_Ga_isNamed_12 rfl ?_
      refine V_icmp_ge 27 16 d_Ga_isNamed_13 (by decide) rfl (fun h13 => ?_) (fun h13 => ?_)
      · refine V_iconst 28 (v := 0) (by decide) d_Ga_isNamed_27 rfl ?_
        exact V_zret rfl rfl d_Ga_isNamed_28 (gN (fun h => h.2.2.1 h13))
      · refine V_il2 17 d_Ga_isNamed_16 rfl ?_
        refine V_cS1 20 (c_Ga_isObject l G _ _ o) ok_Ga_isObject ml_Ga_206 st_Ga_isObject (gRm_ok (by decide) (by decide)) rfl rfl (Nat.le_of_ble_eq_true rfl) d_Ga_isNamed_17 ⟨Nat.le_of_ble_eq_true rfl, Nat.le_of_ble_eq_true rfl⟩ rfl ?_
        refine V_bz 27 23 d_Ga_isNamed_20 (by decide) rfl (fun h20 => ?_) (fun h20 => ?_)
        · refine V_iconst 28 (v := 0) (by decide) d_Ga_isNamed_27 rfl ?_
          exact V_zret rfl rfl d_Ga_isNamed_28 (gN (fun h => h20 h.2.2.2))
        · refine V_iconst 24 (v := 1) (by decide) d_Ga_isNamed_23 rfl ?_
          refine V_goto 28 d_Ga_isNamed_24 (by decide) ?_
          exact V_zret rfl rfl d_Ga_isNamed_28 (gT ⟨h4, h8, h13, h20⟩)
set_option maxRecDepth 100000 in
set_option maxHeartbeats 4000000 in
theorem c_Fu_light (l : Launch) (G : gG) (L : gLy) (M : gMe) (hL : gLC L) (n : Int32) : gMet l G y_Fu_light b_Fu_light 2 none (rmL 1 0 0) [.ref 23, .int n] L M gAll (gPo none L (gst M 23 0 n)) 0 0 := by
  refine gMet_of (lv := [some (.ref 23), some (.int n)]) (by decide) rfl (Nat.le_of_ble_eq_true rfl) rfl ?_
  refine V_al0 1 d_Fu_light_0 rfl ?_
  refine V_il1 2 d_Fu_light_1 rfl ?_
  refine V_puti 5 0 (lC23 hL) kc_Fu (by decide) fl_Fu_9 (Or.inl rfl) rfl rfl rfl rfl d_Fu_light_2 rfl ?_
  exact V_vret rfl d_Fu_light_5 ⟨rfl, rfl, rfl⟩
def fzB (M : gMe) : Int32 := if M 23 0 = -1 then 0 else bi (M 23 0 - 1 = -1)
def fzM (M : gMe) : gMe := if M 23 0 = -1 then M else gst M 23 0 (M 23 0 - 1)
set_option maxRecDepth 100000 in
set_option maxHeartbeats 4000000 in
theorem c_Fu_burnsThrough (l : Launch) (G : gG) (L : gLy) (M : gMe) (hL : gLC L) : gMet l G y_Fu_burnsThrough b_Fu_burnsThrough 1 (some FieldType.boolean) (rmL 1 0 0) [.ref 23] L M gAll (gPo (some (.int (fzB M))) L (fzM M)) 0 0 := by
  refine gMet_of (lv := [some (.ref 23)]) (by decide) rfl (Nat.le_of_ble_eq_true rfl) rfl ?_
  refine V_al0 1 d_Fu_burnsThrough_0 rfl ?_
  refine V_geti 4 0 (lC23 hL) kc_Fu (by decide) fl_Fu_9 (Or.inl rfl) rfl d_Fu_burnsThrough_1 rfl ?_
  refine V_iconst 5 (v := (-1)) (by decide) d_Fu_burnsThrough_4 rfl ?_
  refine V_icmp_ne 10 8 d_Fu_burnsThrough_5 (by decide) rfl (fun h5 => ?_) (fun h5 => ?_)
  · refine V_al0 11 d_Fu_burnsThrough_10 rfl ?_
    refine V_dup 12 rfl d_Fu_burnsThrough_11 rfl ?_
    refine V_geti 15 0 (lC23 hL) kc_Fu (by decide) fl_Fu_9 (Or.inl rfl) rfl d_Fu_burnsThrough_12 rfl ?_
    refine V_iconst 16 (v := 1) (by decide) d_Fu_burnsThrough_15 rfl ?_
    refine V_isub 17 d_Fu_burnsThrough_16 rfl ?_
    refine V_puti 20 0 (lC23 hL) kc_Fu (by decide) fl_Fu_9 (Or.inl rfl) rfl rfl rfl rfl d_Fu_burnsThrough_17 rfl ?_
    refine V_al0 21 d_Fu_burnsThrough_20 rfl ?_
    refine V_geti 24 0 (lC23 hL) kc_Fu (by decide) fl_Fu_9 (Or.inl rfl) rfl d_Fu_burnsThrough_21 rfl ?_
    refine V_iconst 25 (v := (-1)) (by decide) d_Fu_burnsThrough_24 rfl ?_
    refine V_icmp_ne 32 28 d_Fu_burnsThrough_25 (by decide) rfl (fun h25 => ?_) (fun h25 => ?_)
    · refine V_iconst 33 (v := 0) (by decide) d_Fu_burnsThrough_32 rfl ?_
      exact V_zret rfl rfl d_Fu_burnsThrough_33 ⟨by rw [fzB, if_neg h5, bi_f (by simpa [gst_at] using h25)], rfl, by rw [fzM, if_neg h5]⟩
    · refine V_iconst 29 (v := 1) (by decide) d_Fu_burnsThrough_28 rfl ?_
      refine V_goto 33 d_Fu_burnsThrough_29 (by decide) ?_
      exact V_zret rfl rfl d_Fu_burnsThrough_33 ⟨by rw [fzB, if_neg h5, bi_t (by simpa [gst_at] using h25)], rfl, by rw [fzM, if_neg h5]⟩
  · refine V_iconst 9 (v := 0) (by decide) d_Fu_burnsThrough_8 rfl ?_
    exact V_zret rfl rfl d_Fu_burnsThrough_9 ⟨by rw [fzB, if_pos h5], rfl, by rw [fzM, if_pos h5]⟩
set_option maxRecDepth 100000 in
set_option maxHeartbeats 4000000 in
theorem c_Lg_count (l : Launch) (G : gG) (L : gLy) (M : gMe) (hL : gLC L) : gMet l G y_Lg_count b_Lg_count 1 (some FieldType.int) (rmL 1 0 0) [.ref 22] L M gAll (gPo (some (.int (M 22 0))) L M) 0 0 := by
  refine gMet_of (lv := [some (.ref 22)]) (by decide) rfl (Nat.le_of_ble_eq_true rfl) rfl ?_
  refine V_al0 1 d_Lg_count_0 rfl ?_
  refine V_geti 4 0 (lC22 hL) kc_Lg (by decide) fl_Lg_7 (Or.inl rfl) rfl d_Lg_count_1 rfl ?_
  exact V_iret rfl d_Lg_count_4 ⟨rfl, rfl, rfl⟩
set_option maxRecDepth 100000 in
set_option maxHeartbeats 4000000 in
theorem c_Lg_link (l : Launch) (G : gG) (L : gLy) (M : gMe) (hL : gLC L) : gMet l G y_Lg_link b_Lg_link 1 (some FieldType.int) (rmL 1 0 0) [.ref 22] L M gAll (gPo (some (.int (M 22 1))) L M) 0 0 := by
  refine gMet_of (lv := [some (.ref 22)]) (by decide) rfl (Nat.le_of_ble_eq_true rfl) rfl ?_
  refine V_al0 1 d_Lg_link_0 rfl ?_
  refine V_geti 4 1 (lC22 hL) kc_Lg (by decide) fl_Lg_13 (Or.inl rfl) rfl d_Lg_link_1 rfl ?_
  exact V_iret rfl d_Lg_link_4 ⟨rfl, rfl, rfl⟩
def lgAdd (M : gMe) (p r o n : Int32) : gMe := gst (gst M 22 0 (M 22 0 + 1)) 22 1 ((((gst M 22 0 (M 22 0 + 1)) 22 1 ^^^ p) * 31 + 8 * r + o) * 31 + n)
set_option maxRecDepth 100000 in
set_option maxHeartbeats 4000000 in
theorem c_Lg_addGrant (l : Launch) (G : gG) (L : gLy) (M : gMe) (hL : gLC L) (p r o n : Int32) : gMet l G y_Lg_addGrant b_Lg_addGrant 5 none (rmL 1 0 0) [.ref 22, .int p, .int r, .int o, .int n] L M gAll (gPo none L (lgAdd M p r o n)) 0 0 := by
  refine gMet_of (lv := [some (.ref 22), some (.int p), some (.int r), some (.int o), some (.int n)]) (by decide) rfl (Nat.le_of_ble_eq_true rfl) rfl ?_
  refine V_al0 1 d_Lg_addGrant_0 rfl ?_
  refine V_dup 2 rfl d_Lg_addGrant_1 rfl ?_
  refine V_geti 5 0 (lC22 hL) kc_Lg (by decide) fl_Lg_7 (Or.inl rfl) rfl d_Lg_addGrant_2 rfl ?_
  refine V_iconst 6 (v := 1) (by decide) d_Lg_addGrant_5 rfl ?_
  refine V_iadd 7 d_Lg_addGrant_6 rfl ?_
  refine V_puti 10 0 (lC22 hL) kc_Lg (by decide) fl_Lg_7 (Or.inl rfl) rfl rfl rfl rfl d_Lg_addGrant_7 rfl ?_
  refine V_al0 11 d_Lg_addGrant_10 rfl ?_
  refine V_al0 12 d_Lg_addGrant_11 rfl ?_
  refine V_geti 15 1 (lC22 hL) kc_Lg (by decide) fl_Lg_13 (Or.inl rfl) rfl d_Lg_addGrant_12 rfl ?_
  refine V_il1 16 d_Lg_addGrant_15 rfl ?_
  refine V_ixor 17 d_Lg_addGrant_16 rfl ?_
  refine V_bipush 19 (v := 31) (by decide) d_Lg_addGrant_17 rfl ?_
  refine V_imul 20 d_Lg_addGrant_19 rfl ?_
  refine V_bipush 22 (v := 8) (by decide) d_Lg_addGrant_20 rfl ?_
  refine V_il2 23 d_Lg_addGrant_22 rfl ?_
  refine V_imul 24 d_Lg_addGrant_23 rfl ?_
  refine V_iadd 25 d_Lg_addGrant_24 rfl ?_
  refine V_il3 26 d_Lg_addGrant_25 rfl ?_
  refine V_iadd 27 d_Lg_addGrant_26 rfl ?_
  refine V_bipush 29 (v := 31) (by decide) d_Lg_addGrant_27 rfl ?_
  refine V_imul 30 d_Lg_addGrant_29 rfl ?_
  refine V_il4 32 d_Lg_addGrant_30 rfl ?_
  refine V_iadd 33 d_Lg_addGrant_32 rfl ?_
  refine V_puti 36 1 (lC22 hL) kc_Lg (by decide) fl_Lg_13 (Or.inl rfl) rfl rfl rfl rfl d_Lg_addGrant_33 rfl ?_
  exact V_vret rfl d_Lg_addGrant_36 ⟨rfl, rfl, rfl⟩
set_option maxRecDepth 100000 in
set_option maxHeartbeats 4000000 in
theorem c_Pf_length (l : Launch) (G : gG) (L : gLy) (M : gMe) (b : Nat) (hP : gLP L b) : gMet l G y_Pf_length b_Pf_length 1 (some FieldType.int) (rmL 1 0 0) [.ref b] L M gAll (gPo (some (.int (M b 3))) L M) 0 0 := by
  refine gMet_of (lv := [some (.ref b)]) (by decide) rfl (Nat.le_of_ble_eq_true rfl) rfl ?_
  refine V_al0 1 d_Pf_length_0 rfl ?_
  refine V_geti 4 3 hP.1 kc_Pf (by decide) fl_Pf_21 (Or.inl rfl) rfl d_Pf_length_1 rfl ?_
  exact V_iret rfl d_Pf_length_4 ⟨rfl, rfl, rfl⟩
set_option maxRecDepth 100000 in
set_option maxHeartbeats 4000000 in
theorem c_Pf_hasStep (l : Launch) (G : gG) (L : gLy) (M : gMe) (b : Nat) (hP : gLP L b) (k : Int32) : gMet l G y_Pf_hasStep b_Pf_hasStep 2 (some FieldType.boolean) (rmL 1 0 0) [.ref b, .int k] L M gAll (gPo (some (.int (bi (¬ k < 0 ∧ ¬ M b 3 ≤ k)))) L M) 0 0 := by
  refine gMet_of (lv := [some (.ref b), some (.int k)]) (by decide) rfl (Nat.le_of_ble_eq_true rfl) rfl ?_
  refine V_il1 1 d_Pf_hasStep_0 rfl ?_
  refine V_if_lt 16 4 d_Pf_hasStep_1 (by decide) rfl (fun h1 => ?_) (fun h1 => ?_)
  · refine V_iconst 17 (v := 0) (by decide) d_Pf_hasStep_16 rfl ?_
    exact V_zret rfl rfl d_Pf_hasStep_17 (gN (fun h => h.1 h1))
  · refine V_il1 5 d_Pf_hasStep_4 rfl ?_
    refine V_al0 6 d_Pf_hasStep_5 rfl ?_
    refine V_geti 9 3 hP.1 kc_Pf (by decide) fl_Pf_21 (Or.inl rfl) rfl d_Pf_hasStep_6 rfl ?_
    refine V_icmp_ge 16 12 d_Pf_hasStep_9 (by decide) rfl (fun h9 => ?_) (fun h9 => ?_)
    · refine V_iconst 17 (v := 0) (by decide) d_Pf_hasStep_16 rfl ?_
      exact V_zret rfl rfl d_Pf_hasStep_17 (gN (fun h => h.2 h9))
    · refine V_iconst 13 (v := 1) (by decide) d_Pf_hasStep_12 rfl ?_
      refine V_goto 17 d_Pf_hasStep_13 (by decide) ?_
      exact V_zret rfl rfl d_Pf_hasStep_17 (gT ⟨h1, h9⟩)
set_option maxRecDepth 100000 in
set_option maxHeartbeats 4000000 in
theorem c_Pf_ruleAt (l : Launch) (G : gG) (L : gLy) (M : gMe) (b : Nat) (hP : gLP L b) (j : Nat) (hj : j < 40) : gMet l G y_Pf_ruleAt b_Pf_ruleAt 2 (some FieldType.int) (rmL 1 0 0) [.ref b, .int (nI j)] L M gAll (gPo (some (.int (M (b + 1) j))) L M) 0 0 := by
  refine gMet_of (lv := [some (.ref b), some (.int (nI j))]) (by decide) rfl (Nat.le_of_ble_eq_true rfl) rfl ?_
  refine V_al0 1 d_Pf_ruleAt_0 rfl ?_
  refine V_getr 4 0 hP.1 kc_Pf (by decide) fl_Pf_9 (Or.inl rfl) rfl d_Pf_ruleAt_1 rfl ?_
  refine V_il1 5 d_Pf_ruleAt_4 rfl ?_
  refine V_ialn 6 (j) hP.2.1 rfl hj (by decide) d_Pf_ruleAt_5 rfl ?_
  exact V_iret rfl d_Pf_ruleAt_6 ⟨rfl, rfl, rfl⟩
set_option maxRecDepth 100000 in
set_option maxHeartbeats 4000000 in
theorem c_Pf_xAt (l : Launch) (G : gG) (L : gLy) (M : gMe) (b : Nat) (hP : gLP L b) (j : Nat) (hj : j < 40) : gMet l G y_Pf_xAt b_Pf_xAt 2 (some FieldType.int) (rmL 1 0 0) [.ref b, .int (nI j)] L M gAll (gPo (some (.int (M (b + 2) j))) L M) 0 0 := by
  refine gMet_of (lv := [some (.ref b), some (.int (nI j))]) (by decide) rfl (Nat.le_of_ble_eq_true rfl) rfl ?_
  refine V_al0 1 d_Pf_xAt_0 rfl ?_
  refine V_getr 4 1 hP.1 kc_Pf (by decide) fl_Pf_15 (Or.inl rfl) rfl d_Pf_xAt_1 rfl ?_
  refine V_il1 5 d_Pf_xAt_4 rfl ?_
  refine V_ialn 6 (j) hP.2.2.1 rfl hj (by decide) d_Pf_xAt_5 rfl ?_
  exact V_iret rfl d_Pf_xAt_6 ⟨rfl, rfl, rfl⟩
set_option maxRecDepth 100000 in
set_option maxHeartbeats 4000000 in
theorem c_Pf_yAt (l : Launch) (G : gG) (L : gLy) (M : gMe) (b : Nat) (hP : gLP L b) (j : Nat) (hj : j < 40) : gMet l G y_Pf_yAt b_Pf_yAt 2 (some FieldType.int) (rmL 1 0 0) [.ref b, .int (nI j)] L M gAll (gPo (some (.int (M (b + 3) j))) L M) 0 0 := by
  refine gMet_of (lv := [some (.ref b), some (.int (nI j))]) (by decide) rfl (Nat.le_of_ble_eq_true rfl) rfl ?_
  refine V_al0 1 d_Pf_yAt_0 rfl ?_
  refine V_getr 4 2 hP.1 kc_Pf (by decide) fl_Pf_18 (Or.inl rfl) rfl d_Pf_yAt_1 rfl ?_
  refine V_il1 5 d_Pf_yAt_4 rfl ?_
  refine V_ialn 6 (j) hP.2.2.2 rfl hj (by decide) d_Pf_yAt_5 rfl ?_
  exact V_iret rfl d_Pf_yAt_6 ⟨rfl, rfl, rfl⟩
def pfApp (M : gMe) (b n : Nat) (r x z : Int32) : gMe := gst (gst (gst (gst M (b + 1) n r) (b + 2) n x) (b + 3) n z) b 3 (nI (n + 1))
set_option maxRecDepth 100000 in
set_option maxHeartbeats 4000000 in
theorem c_Pf_append (l : Launch) (G : gG) (L : gLy) (M : gMe) (b : Nat) (hP : gLP L b) (n : Nat) (hn : M b 3 = nI n) (hn4 : n < 40) (r x z : Int32) : gMet l G y_Pf_append b_Pf_append 4 (some FieldType.int) (rmL 1 0 0) [.ref b, .int r, .int x, .int z] L M gAll (gPo (some (.int (nI n))) L (pfApp M b n r x z)) 0 0 := by
  refine gMet_of (lv := [some (.ref b), some (.int r), some (.int x), some (.int z)]) (by decide) rfl (Nat.le_of_ble_eq_true rfl) rfl ?_
  refine V_al0 1 d_Pf_append_0 rfl ?_
  refine V_geti 4 3 hP.1 kc_Pf (by decide) fl_Pf_21 (Or.inl rfl) rfl d_Pf_append_1 rfl ?_
  refine V_bipush 6 (v := 40) (by decide) d_Pf_append_4 rfl ?_
  refine V_icmp_lt 11 9 d_Pf_append_6 (by decide) rfl (fun _ => ?_) (fun h9 => absurd (by rw [hn]; exact nI_lt (b := 40) hn4 (by decide)) h9)
  refine V_al0 12 d_Pf_append_11 rfl ?_
  refine V_getr 15 0 hP.1 kc_Pf (by decide) fl_Pf_9 (Or.inl rfl) rfl d_Pf_append_12 rfl ?_
  refine V_al0 16 d_Pf_append_15 rfl ?_
  refine V_geti 19 3 hP.1 kc_Pf (by decide) fl_Pf_21 (Or.inl rfl) rfl d_Pf_append_16 rfl ?_
  refine V_il1 20 d_Pf_append_19 rfl ?_
  refine V_iasn 21 (n) hP.2.1 hn hn4 (by decide) d_Pf_append_20 rfl ?_
  refine V_al0 22 d_Pf_append_21 rfl ?_
  refine V_getr 25 1 hP.1 kc_Pf (by decide) fl_Pf_15 (Or.inl rfl) rfl d_Pf_append_22 rfl ?_
  refine V_al0 26 d_Pf_append_25 rfl ?_
  refine V_geti 29 3 hP.1 kc_Pf (by decide) fl_Pf_21 (Or.inl rfl) rfl d_Pf_append_26 rfl ?_
  refine V_il2 30 d_Pf_append_29 rfl ?_
  refine V_iasn 31 (n) hP.2.2.1 (by rw [gst_ne _ _ _ _ (by omega)]; exact hn) hn4 (by decide) d_Pf_append_30 rfl ?_
  refine V_al0 32 d_Pf_append_31 rfl ?_
  refine V_getr 35 2 hP.1 kc_Pf (by decide) fl_Pf_18 (Or.inl rfl) rfl d_Pf_append_32 rfl ?_
  refine V_al0 36 d_Pf_append_35 rfl ?_
  refine V_geti 39 3 hP.1 kc_Pf (by decide) fl_Pf_21 (Or.inl rfl) rfl d_Pf_append_36 rfl ?_
  refine V_il3 40 d_Pf_append_39 rfl ?_
  refine V_iasn 41 (n) hP.2.2.2 (by rw [gst_ne _ _ _ _ (by omega), gst_ne _ _ _ _ (by omega)]; exact hn) hn4 (by decide) d_Pf_append_40 rfl ?_
  refine V_al0 42 d_Pf_append_41 rfl ?_
  refine V_dup 43 rfl d_Pf_append_42 rfl ?_
  refine V_geti 46 3 hP.1 kc_Pf (by decide) fl_Pf_21 (Or.inl rfl) rfl d_Pf_append_43 rfl ?_
  refine V_iconst 47 (v := 1) (by decide) d_Pf_append_46 rfl ?_
  refine V_iadd 48 d_Pf_append_47 rfl ?_
  refine V_topi (z := nI (n + 1)) (by rw [gst_ne _ _ _ _ (by omega), gst_ne _ _ _ _ (by omega), gst_ne _ _ _ _ (by omega), hn, nI_1]) ?_
  refine V_puti 51 3 hP.1 kc_Pf (by decide) fl_Pf_21 (Or.inl rfl) rfl rfl rfl rfl d_Pf_append_48 rfl ?_
  refine V_al0 52 d_Pf_append_51 rfl ?_
  refine V_geti 55 3 hP.1 kc_Pf (by decide) fl_Pf_21 (Or.inl rfl) rfl d_Pf_append_52 rfl ?_
  refine V_iconst 56 (v := 1) (by decide) d_Pf_append_55 rfl ?_
  refine V_isub 57 d_Pf_append_56 rfl ?_
  exact V_iret rfl d_Pf_append_57 ⟨by rw [gst_same]; show some (Value.int (nI (n + 1) - 1)) = _; rw [nI_pred], rfl, rfl⟩
set_option maxRecDepth 100000 in
set_option maxHeartbeats 4000000 in
theorem c_Pf_append_full (l : Launch) (G : gG) (L : gLy) (M : gMe) (b : Nat) (hP : gLP L b) (hn : M b 3 = nI 40) (r x z : Int32) : gMet l G y_Pf_append b_Pf_append 4 (some FieldType.int) (rmL 1 0 0) [.ref b, .int r, .int x, .int z] L M gAll (gPo (some (.int (-1))) L M) 0 0 := by
  refine gMet_of (lv := [some (.ref b), some (.int r), some (.int x), some (.int z)]) (by decide) rfl (Nat.le_of_ble_eq_true rfl) rfl ?_
  refine V_al0 1 d_Pf_append_0 rfl ?_
  refine V_geti 4 3 hP.1 kc_Pf (by decide) fl_Pf_21 (Or.inl rfl) rfl d_Pf_append_1 rfl ?_
  refine V_bipush 6 (v := 40) (by decide) d_Pf_append_4 rfl ?_
  refine V_icmp_lt 11 9 d_Pf_append_6 (by decide) rfl (fun h9 => absurd h9 (by rw [hn]; exact nI_nlt (a := 40) (b := 40) (Nat.le_refl _) (by decide))) (fun _ => ?_)
  refine V_iconst 10 (v := (-1)) (by decide) d_Pf_append_9 rfl ?_
  exact V_iret rfl d_Pf_append_10 ⟨rfl, rfl, rfl⟩
set_option maxRecDepth 100000 in
set_option maxHeartbeats 4000000 in
theorem c_Pf_makeEmpty (l : Launch) (G : gG) (L : gLy) (M : gMe) (b : Nat) (hP : gLP L b) : gMet l G y_Pf_makeEmpty b_Pf_makeEmpty 2 (some FieldType.int) (rmL 1 0 0) [.ref b] L M gAll (gPo (some (.int (M b 3))) L (gst M b 3 0)) 0 0 := by
  refine gMet_of (lv := [some (.ref b), none]) (by decide) rfl (Nat.le_of_ble_eq_true rfl) rfl ?_
  refine V_al0 1 d_Pf_makeEmpty_0 rfl ?_
  refine V_geti 4 3 hP.1 kc_Pf (by decide) fl_Pf_21 (Or.inl rfl) rfl d_Pf_makeEmpty_1 rfl ?_
  refine V_is1 5 d_Pf_makeEmpty_4 (by decide) rfl ?_
  refine V_al0 6 d_Pf_makeEmpty_5 rfl ?_
  refine V_iconst 7 (v := 0) (by decide) d_Pf_makeEmpty_6 rfl ?_
  refine V_puti 10 3 hP.1 kc_Pf (by decide) fl_Pf_21 (Or.inl rfl) rfl rfl rfl rfl d_Pf_makeEmpty_7 rfl ?_
  refine V_il1 11 d_Pf_makeEmpty_10 rfl ?_
  exact V_iret rfl d_Pf_makeEmpty_11 ⟨rfl, rfl, rfl⟩
abbrev pVal (M : gMe) (c : Nat) (t : Int32) : Prop := M c 5 = 0 ∧ ¬ t < M c 3 ∧ ¬ M c 4 < t
set_option maxRecDepth 100000 in
set_option maxHeartbeats 4000000 in
theorem c_Cr_isValidAt (l : Launch) (G : gG) (L : gLy) (M : gMe) (c n : Nat) (hR : gLR L c n) (t : Int32) : gMet l G y_Cr_isValidAt b_Cr_isValidAt 2 (some FieldType.boolean) (rmL 1 0 0) [.ref c, .int t] L M gAll (gPo (some (.int (bi (pVal M c t)))) L M) 0 0 := by
  refine gMet_of (lv := [some (.ref c), some (.int t)]) (by decide) rfl (Nat.le_of_ble_eq_true rfl) rfl ?_
  refine V_al0 1 d_Cr_isValidAt_0 rfl ?_
  refine V_geti 4 5 hR.1 kc_Cr (by decide) fl_Cr_42 (Or.inl rfl) rfl d_Cr_isValidAt_1 rfl ?_
  refine V_if_ne 27 7 d_Cr_isValidAt_4 (by decide) rfl (fun h4 => ?_) (fun h4 => ?_)
  · refine V_iconst 28 (v := 0) (by decide) d_Cr_isValidAt_27 rfl ?_
    exact V_zret rfl rfl d_Cr_isValidAt_28 (gN (fun h => h4 h.1))
  · refine V_al0 8 d_Cr_isValidAt_7 rfl ?_
    refine V_geti 11 3 hR.1 kc_Cr (by decide) fl_Cr_22 (Or.inl rfl) rfl d_Cr_isValidAt_8 rfl ?_
    refine V_il1 12 d_Cr_isValidAt_11 rfl ?_
    refine V_icmp_gt 27 15 d_Cr_isValidAt_12 (by decide) rfl (fun h12 => ?_) (fun h12 => ?_)
    · refine V_iconst 28 (v := 0) (by decide) d_Cr_isValidAt_27 rfl ?_
      exact V_zret rfl rfl d_Cr_isValidAt_28 (gN (fun h => h.2.1 h12))
    · refine V_il1 16 d_Cr_isValidAt_15 rfl ?_
      refine V_al0 17 d_Cr_isValidAt_16 rfl ?_
      refine V_geti 20 4 hR.1 kc_Cr (by decide) fl_Cr_25 (Or.inl rfl) rfl d_Cr_isValidAt_17 rfl ?_
      refine V_icmp_gt 27 23 d_Cr_isValidAt_20 (by decide) rfl (fun h20 => ?_) (fun h20 => ?_)
      · refine V_iconst 28 (v := 0) (by decide) d_Cr_isValidAt_27 rfl ?_
        exact V_zret rfl rfl d_Cr_isValidAt_28 (gN (fun h => h.2.2 h20))
      · refine V_iconst 24 (v := 1) (by decide) d_Cr_isValidAt_23 rfl ?_
        refine V_goto 28 d_Cr_isValidAt_24 (by decide) ?_
        exact V_zret rfl rfl d_Cr_isValidAt_28 (gT ⟨h4, h12, h20⟩)
def crMix (m v : Int32) : Int32 := ((m ^^^ v) * 1540483477) ^^^ (((m ^^^ v) * 1540483477).toUInt32 >>> ((15 : Int32).toUInt32 &&& Int32.toUInt32 31)).toInt32
set_option maxRecDepth 100000 in
set_option maxHeartbeats 4000000 in
theorem c_Cr_mix (l : Launch) (G : gG) (L : gLy) (M : gMe) (m v : Int32) : gMet l G y_Cr_mix b_Cr_mix 3 (some FieldType.int) (rmL 1 0 0) [.int m, .int v] L M gAll (gPo (some (.int (crMix m v))) L M) 0 0 := by
  refine gMet_of (lv := [some (.int m), some (.int v), none]) (by decide) rfl (Nat.le_of_ble_eq_true rfl) rfl ?_
  refine V_il0 1 d_Cr_mix_0 rfl ?_
  refine V_il1 2 d_Cr_mix_1 rfl ?_
  refine V_ixor 3 d_Cr_mix_2 rfl ?_
  refine V_ldc 5 ct_Cr_49 d_Cr_mix_3 rfl ?_
  refine V_imul 6 d_Cr_mix_5 rfl ?_
  refine V_is2 7 d_Cr_mix_6 (by decide) rfl ?_
  refine V_il2 8 d_Cr_mix_7 rfl ?_
  refine V_il2 9 d_Cr_mix_8 rfl ?_
  refine V_bipush 11 (v := 15) (by decide) d_Cr_mix_9 rfl ?_
  refine V_iushr 12 d_Cr_mix_11 rfl ?_
  refine V_ixor 13 d_Cr_mix_12 rfl ?_
  exact V_iret rfl d_Cr_mix_13 ⟨rfl, rfl, rfl⟩
abbrev pKind (k : Int32) : Prop := ¬ k < 0 ∧ ¬ 4 ≤ k
set_option maxRecDepth 100000 in
set_option maxHeartbeats 4000000 in
theorem c_Cr_isKind (l : Launch) (G : gG) (L : gLy) (M : gMe) (k : Int32) : gMet l G y_Cr_isKind b_Cr_isKind 1 (some FieldType.boolean) (rmL 1 0 0) [.int k] L M gAll (gPo (some (.int (bi (pKind k)))) L M) 0 0 := by
  refine gMet_of (lv := [some (.int k)]) (by decide) rfl (Nat.le_of_ble_eq_true rfl) rfl ?_
  refine V_il0 1 d_Cr_isKind_0 rfl ?_
  refine V_if_lt 13 4 d_Cr_isKind_1 (by decide) rfl (fun h1 => ?_) (fun h1 => ?_)
  · refine V_iconst 14 (v := 0) (by decide) d_Cr_isKind_13 rfl ?_
    exact V_zret rfl rfl d_Cr_isKind_14 (gN (fun h => h.1 h1))
  · refine V_il0 5 d_Cr_isKind_4 rfl ?_
    refine V_iconst 6 (v := 4) (by decide) d_Cr_isKind_5 rfl ?_
    refine V_icmp_ge 13 9 d_Cr_isKind_6 (by decide) rfl (fun h6 => ?_) (fun h6 => ?_)
    · refine V_iconst 14 (v := 0) (by decide) d_Cr_isKind_13 rfl ?_
      exact V_zret rfl rfl d_Cr_isKind_14 (gN (fun h => h.2 h6))
    · refine V_iconst 10 (v := 1) (by decide) d_Cr_isKind_9 rfl ?_
      refine V_goto 14 d_Cr_isKind_10 (by decide) ?_
      exact V_zret rfl rfl d_Cr_isKind_14 (gT ⟨h1, h6⟩)
set_option maxRecDepth 100000 in
set_option maxHeartbeats 4000000 in
theorem c_Pv_speaks (l : Launch) (G : gG) (L : gLy) (M : gMe) (b a : Int32) : gMet l G y_Pv_speaks b_Pv_speaks 2 (some FieldType.int) (rmL 1 0 0) [.int b, .int a] L M gAll (gPo (some (.int (6 * b + a))) L M) 0 0 := by
  refine gMet_of (lv := [some (.int b), some (.int a)]) (by decide) rfl (Nat.le_of_ble_eq_true rfl) rfl ?_
  refine V_bipush 2 (v := 6) (by decide) d_Pv_speaks_0 rfl ?_
  refine V_il0 3 d_Pv_speaks_2 rfl ?_
  refine V_imul 4 d_Pv_speaks_3 rfl ?_
  refine V_il1 5 d_Pv_speaks_4 rfl ?_
  refine V_iadd 6 d_Pv_speaks_5 rfl ?_
  exact V_iret rfl d_Pv_speaks_6 ⟨rfl, rfl, rfl⟩
set_option maxRecDepth 100000 in
set_option maxHeartbeats 4000000 in
theorem c_Pv_may (l : Launch) (G : gG) (L : gLy) (M : gMe) (a x r : Int32) : gMet l G y_Pv_may b_Pv_may 3 (some FieldType.int) (rmL 1 0 0) [.int a, .int x, .int r] L M gAll (gPo (some (.int (36 + (6 * a + x) * 4 + r))) L M) 0 0 := by
  refine gMet_of (lv := [some (.int a), some (.int x), some (.int r)]) (by decide) rfl (Nat.le_of_ble_eq_true rfl) rfl ?_
  refine V_bipush 2 (v := 36) (by decide) d_Pv_may_0 rfl ?_
  refine V_bipush 4 (v := 6) (by decide) d_Pv_may_2 rfl ?_
  refine V_il0 5 d_Pv_may_4 rfl ?_
  refine V_imul 6 d_Pv_may_5 rfl ?_
  refine V_il1 7 d_Pv_may_6 rfl ?_
  refine V_iadd 8 d_Pv_may_7 rfl ?_
  refine V_iconst 9 (v := 4) (by decide) d_Pv_may_8 rfl ?_
  refine V_imul 10 d_Pv_may_9 rfl ?_
  refine V_iadd 11 d_Pv_may_10 rfl ?_
  refine V_il2 12 d_Pv_may_11 rfl ?_
  refine V_iadd 13 d_Pv_may_12 rfl ?_
  exact V_iret rfl d_Pv_may_13 ⟨rfl, rfl, rfl⟩
set_option maxRecDepth 100000 in
set_option maxHeartbeats 4000000 in
theorem c_Pv_trusts (l : Launch) (G : gG) (L : gLy) (M : gMe) (a b r d : Int32) : gMet l G y_Pv_trusts b_Pv_trusts 4 (some FieldType.int) (rmL 1 0 0) [.int a, .int b, .int r, .int d] L M gAll (gPo (some (.int (180 + ((6 * a + b) * 4 + r) * 4 + d))) L M) 0 0 := by
  refine gMet_of (lv := [some (.int a), some (.int b), some (.int r), some (.int d)]) (by decide) rfl (Nat.le_of_ble_eq_true rfl) rfl ?_
  refine V_sipush 3 (v := 180) (by decide) d_Pv_trusts_0 rfl ?_
  refine V_bipush 5 (v := 6) (by decide) d_Pv_trusts_3 rfl ?_
  refine V_il0 6 d_Pv_trusts_5 rfl ?_
  refine V_imul 7 d_Pv_trusts_6 rfl ?_
  refine V_il1 8 d_Pv_trusts_7 rfl ?_
  refine V_iadd 9 d_Pv_trusts_8 rfl ?_
  refine V_iconst 10 (v := 4) (by decide) d_Pv_trusts_9 rfl ?_
  refine V_imul 11 d_Pv_trusts_10 rfl ?_
  refine V_il2 12 d_Pv_trusts_11 rfl ?_
  refine V_iadd 13 d_Pv_trusts_12 rfl ?_
  refine V_iconst 14 (v := 4) (by decide) d_Pv_trusts_13 rfl ?_
  refine V_imul 15 d_Pv_trusts_14 rfl ?_
  refine V_iadd 16 d_Pv_trusts_15 rfl ?_
  refine V_il3 17 d_Pv_trusts_16 rfl ?_
  refine V_iadd 18 d_Pv_trusts_17 rfl ?_
  exact V_iret rfl d_Pv_trusts_18 ⟨rfl, rfl, rfl⟩
abbrev pKn (M : gMe) (j : Nat) : Prop := ¬ M 15 j = 0 ∧ ¬ M 10 7 ≤ M 15 j
set_option maxRecDepth 100000 in
set_option maxHeartbeats 4000000 in
theorem c_Pv_isKnown (l : Launch) (G : gG) (L : gLy) (M : gMe) (hL : gLC L) (j : Nat) (hj : j < 756) : gMet l G y_Pv_isKnown b_Pv_isKnown 2 (some FieldType.boolean) (rmL 1 0 0) [.ref 10, .int (nI j)] L M gAll (gPo (some (.int (bi (pKn M j)))) L M) 0 0 := by
  refine gMet_of (lv := [some (.ref 10), some (.int (nI j))]) (by decide) rfl (Nat.le_of_ble_eq_true rfl) rfl ?_
  refine V_al0 1 d_Pv_isKnown_0 rfl ?_
  refine V_getr 4 2 (lC10 hL) kc_Pv (by decide) fl_Pv_18 (Or.inl rfl) rfl d_Pv_isKnown_1 rfl ?_
  refine V_il1 5 d_Pv_isKnown_4 rfl ?_
  refine V_ialn 6 (j) (lC15 hL) rfl hj (by decide) d_Pv_isKnown_5 rfl ?_
  refine V_if_eq 26 9 d_Pv_isKnown_6 (by decide) rfl (fun h6 => ?_) (fun h6 => ?_)
  · refine V_iconst 27 (v := 0) (by decide) d_Pv_isKnown_26 rfl ?_
    exact V_zret rfl rfl d_Pv_isKnown_27 (gN (fun h => h.1 h6))
  · refine V_al0 10 d_Pv_isKnown_9 rfl ?_
    refine V_getr 13 2 (lC10 hL) kc_Pv (by decide) fl_Pv_18 (Or.inl rfl) rfl d_Pv_isKnown_10 rfl ?_
    refine V_il1 14 d_Pv_isKnown_13 rfl ?_
    refine V_ialn 15 (j) (lC15 hL) rfl hj (by decide) d_Pv_isKnown_14 rfl ?_
    refine V_al0 16 d_Pv_isKnown_15 rfl ?_
    refine V_geti 19 7 (lC10 hL) kc_Pv (by decide) fl_Pv_62 (Or.inl rfl) rfl d_Pv_isKnown_16 rfl ?_
    refine V_icmp_ge 26 22 d_Pv_isKnown_19 (by decide) rfl (fun h19 => ?_) (fun h19 => ?_)
    · refine V_iconst 27 (v := 0) (by decide) d_Pv_isKnown_26 rfl ?_
      exact V_zret rfl rfl d_Pv_isKnown_27 (gN (fun h => h.2 h19))
    · refine V_iconst 23 (v := 1) (by decide) d_Pv_isKnown_22 rfl ?_
      refine V_goto 27 d_Pv_isKnown_23 (by decide) ?_
      exact V_zret rfl rfl d_Pv_isKnown_27 (gT ⟨h6, h19⟩)
def cReach (M : gMe) (j : Nat) (u f z : Int32) : gMe := if M 15 j = 0 then gst (gst (gst (gst (gst M 15 j (M 10 7)) 16 j u) 17 j f) 18 j z) 10 8 1 else M
set_option maxRecDepth 100000 in
set_option maxHeartbeats 4000000 in
theorem c_Pv_reach (l : Launch) (G : gG) (L : gLy) (M : gMe) (hL : gLC L) (j : Nat) (hj : j < 756) (u f z : Int32) : gMet l G y_Pv_reach b_Pv_reach 5 none (rmL 1 0 0) [.ref 10, .int (nI j), .int u, .int f, .int z] L M gAll (gPo none L (cReach M j u f z)) 0 0 := by
  refine gMet_of (lv := [some (.ref 10), some (.int (nI j)), some (.int u), some (.int f), some (.int z)]) (by decide) rfl (Nat.le_of_ble_eq_true rfl) rfl ?_
  refine V_al0 1 d_Pv_reach_0 rfl ?_
  refine V_getr 4 2 (lC10 hL) kc_Pv (by decide) fl_Pv_18 (Or.inl rfl) rfl d_Pv_reach_1 rfl ?_
  refine V_il1 5 d_Pv_reach_4 rfl ?_
  refine V_ialn 6 (j) (lC15 hL) rfl hj (by decide) d_Pv_reach_5 rfl ?_
  refine V_if_ne 46 9 d_Pv_reach_6 (by decide) rfl (fun h6 => ?_) (fun h6 => ?_)
  · exact V_vret rfl d_Pv_reach_46 ⟨rfl, rfl, by rw [cReach, if_neg h6]⟩
  · refine V_al0 10 d_Pv_reach_9 rfl ?_
    refine V_getr 13 2 (lC10 hL) kc_Pv (by decide) fl_Pv_18 (Or.inl rfl) rfl d_Pv_reach_10 rfl ?_
    refine V_il1 14 d_Pv_reach_13 rfl ?_
    refine V_al0 15 d_Pv_reach_14 rfl ?_
    refine V_geti 18 7 (lC10 hL) kc_Pv (by decide) fl_Pv_62 (Or.inl rfl) rfl d_Pv_reach_15 rfl ?_
    refine V_iasn 19 (j) (lC15 hL) rfl hj (by decide) d_Pv_reach_18 rfl ?_
    refine V_al0 20 d_Pv_reach_19 rfl ?_
    refine V_getr 23 3 (lC10 hL) kc_Pv (by decide) fl_Pv_22 (Or.inl rfl) rfl d_Pv_reach_20 rfl ?_
    refine V_il1 24 d_Pv_reach_23 rfl ?_
    refine V_il2 25 d_Pv_reach_24 rfl ?_
    refine V_iasn 26 (j) (lC16 hL) rfl hj (by decide) d_Pv_reach_25 rfl ?_
    refine V_al0 27 d_Pv_reach_26 rfl ?_
    refine V_getr 30 4 (lC10 hL) kc_Pv (by decide) fl_Pv_25 (Or.inl rfl) rfl d_Pv_reach_27 rfl ?_
    refine V_il1 31 d_Pv_reach_30 rfl ?_
    refine V_il3 32 d_Pv_reach_31 rfl ?_
    refine V_iasn 33 (j) (lC17 hL) rfl hj (by decide) d_Pv_reach_32 rfl ?_
    refine V_al0 34 d_Pv_reach_33 rfl ?_
    refine V_getr 37 5 (lC10 hL) kc_Pv (by decide) fl_Pv_28 (Or.inl rfl) rfl d_Pv_reach_34 rfl ?_
    refine V_il1 38 d_Pv_reach_37 rfl ?_
    refine V_il4 40 d_Pv_reach_38 rfl ?_
    refine V_iasn 41 (j) (lC18 hL) rfl hj (by decide) d_Pv_reach_40 rfl ?_
    refine V_al0 42 d_Pv_reach_41 rfl ?_
    refine V_iconst 43 (v := 1) (by decide) d_Pv_reach_42 rfl ?_
    refine V_puti 46 8 (lC10 hL) kc_Pv (by decide) fl_Pv_66 (Or.inl rfl) rfl rfl rfl rfl d_Pv_reach_43 rfl ?_
    exact V_vret rfl d_Pv_reach_46 ⟨rfl, rfl, by rw [cReach, if_pos h6]⟩
set_option maxRecDepth 100000 in
set_option maxHeartbeats 4000000 in
theorem c_Fa_isMay (l : Launch) (G : gG) (L : gLy) (M : gMe) (b : Nat) (hF : gLF L b) (a x r o : Int32) : gMet l G y_Fa_isMay b_Fa_isMay 5 (some FieldType.boolean) (rmL 1 0 0) [.ref b, .int a, .int x, .int r, .int o] L M gAll (gPo (some (.int (bi (M b 0 = 0 ∧ M b 1 = a ∧ M b 2 = x ∧ M b 3 = r ∧ M b 4 = o)))) L M) 0 0 := by
  refine gMet_of (lv := [some (.ref b), some (.int a), some (.int x), some (.int r), some (.int o)]) (by decide) rfl (Nat.le_of_ble_eq_true rfl) rfl ?_
  refine V_al0 1 d_Fa_isMay_0 rfl ?_
  refine V_geti 4 0 hF kc_Fa (by decide) fl_Fa_15 (Or.inl rfl) rfl d_Fa_isMay_1 rfl ?_
  refine V_if_ne 44 7 d_Fa_isMay_4 (by decide) rfl (fun h4 => ?_) (fun h4 => ?_)
  · refine V_iconst 45 (v := 0) (by decide) d_Fa_isMay_44 rfl ?_
    exact V_zret rfl rfl d_Fa_isMay_45 (gN (fun h => h4 h.1))
  · refine V_al0 8 d_Fa_isMay_7 rfl ?_
    refine V_geti 11 1 hF kc_Fa (by decide) fl_Fa_21 (Or.inl rfl) rfl d_Fa_isMay_8 rfl ?_
    refine V_il1 12 d_Fa_isMay_11 rfl ?_
    refine V_icmp_ne 44 15 d_Fa_isMay_12 (by decide) rfl (fun h12 => ?_) (fun h12 => ?_)
    · refine V_iconst 45 (v := 0) (by decide) d_Fa_isMay_44 rfl ?_
      exact V_zret rfl rfl d_Fa_isMay_45 (gN (fun h => h12 h.2.1))
    · refine V_al0 16 d_Fa_isMay_15 rfl ?_
      refine V_geti 19 2 hF kc_Fa (by decide) fl_Fa_28 (Or.inl rfl) rfl d_Fa_isMay_16 rfl ?_
      refine V_il2 20 d_Fa_isMay_19 rfl ?_
      refine V_icmp_ne 44 23 d_Fa_isMay_20 (by decide) rfl (fun h20 => ?_) (fun h20 => ?_)
      · refine V_iconst 45 (v := 0) (by decide) d_Fa_isMay_44 rfl ?_
        exact V_zret rfl rfl d_Fa_isMay_45 (gN (fun h => h20 h.2.2.1))
      · refine V_al0 24 d_Fa_isMay_23 rfl ?_
        refine V_geti 27 3 hF kc_Fa (by decide) fl_Fa_31 (Or.inl rfl) rfl d_Fa_isMay_24 rfl ?_
        refine V_il3 28 d_Fa_isMay_27 rfl ?_
        refine V_icmp_ne 44 31 d_Fa_isMay_28 (by decide) rfl (fun h28 => ?_) (fun h28 => ?_)
        · refine V_iconst 45 (v := 0) (by decide) d_Fa_isMay_44 rfl ?_
          exact V_zret rfl rfl d_Fa_isMay_45 (gN (fun h => h28 h.2.2.2.1))
        · refine V_al0 32 d_Fa_isMay_31 rfl ?_
          refine V_geti 35 4 hF kc_Fa (by decide) fl_Fa_34 (Or.inl rfl) rfl d_Fa_isMay_32 rfl ?_
          refine V_il4 37 d_Fa_isMay_35 rfl ?_
          refine V_icmp_ne 44 40 d_Fa_isMay_37 (by decide) rfl (fun h37 => ?_) (fun h37 => ?_)
          · refine V_iconst 45 (v := 0) (by decide) d_Fa_isMay_44 rfl ?_
            exact V_zret rfl rfl d_Fa_isMay_45 (gN (fun h => h37 h.2.2.2.2))
          · refine V_iconst 41 (v := 1) (by decide) d_Fa_isMay_40 rfl ?_
            refine V_goto 45 d_Fa_isMay_41 (by decide) ?_
            exact V_zret rfl rfl d_Fa_isMay_45 (gT ⟨h4, h12, h20, h28, h37⟩)
set_option maxRecDepth 100000 in
set_option maxHeartbeats 4000000 in
theorem c_Fa_isOfSameThing (l : Launch) (G : gG) (L : gLy) (M : gMe) (b b2 : Nat) (hF : gLF L b) (hF2 : gLF L b2) : gMet l G y_Fa_isOfSameThing b_Fa_isOfSameThing 2 (some FieldType.boolean) (rmL 1 0 0) [.ref b, .ref b2] L M gAll (gPo (some (.int (bi (M b 3 = M b2 3 ∧ M b 4 = M b2 4)))) L M) 0 0 := by
  refine gMet_of (lv := [some (.ref b), some (.ref b2)]) (by decide) rfl (Nat.le_of_ble_eq_true rfl) rfl ?_
  refine V_al0 1 d_Fa_isOfSameThing_0 rfl ?_
  refine V_geti 4 3 hF kc_Fa (by decide) fl_Fa_31 (Or.inl rfl) rfl d_Fa_isOfSameThing_1 rfl ?_
  refine V_al1 5 d_Fa_isOfSameThing_4 rfl ?_
  refine V_geti 8 3 hF2 kc_Fa (by decide) fl_Fa_31 (Or.inl rfl) rfl d_Fa_isOfSameThing_5 rfl ?_
  refine V_icmp_ne 26 11 d_Fa_isOfSameThing_8 (by decide) rfl (fun h8 => ?_) (fun h8 => ?_)
  · refine V_iconst 27 (v := 0) (by decide) d_Fa_isOfSameThing_26 rfl ?_
    exact V_zret rfl rfl d_Fa_isOfSameThing_27 (gN (fun h => h8 h.1))
  · refine V_al0 12 d_Fa_isOfSameThing_11 rfl ?_
    refine V_geti 15 4 hF kc_Fa (by decide) fl_Fa_34 (Or.inl rfl) rfl d_Fa_isOfSameThing_12 rfl ?_
    refine V_al1 16 d_Fa_isOfSameThing_15 rfl ?_
    refine V_geti 19 4 hF2 kc_Fa (by decide) fl_Fa_34 (Or.inl rfl) rfl d_Fa_isOfSameThing_16 rfl ?_
    refine V_icmp_ne 26 22 d_Fa_isOfSameThing_19 (by decide) rfl (fun h19 => ?_) (fun h19 => ?_)
    · refine V_iconst 27 (v := 0) (by decide) d_Fa_isOfSameThing_26 rfl ?_
      exact V_zret rfl rfl d_Fa_isOfSameThing_27 (gN (fun h => h19 h.2))
    · refine V_iconst 23 (v := 1) (by decide) d_Fa_isOfSameThing_22 rfl ?_
      refine V_goto 27 d_Fa_isOfSameThing_23 (by decide) ?_
      exact V_zret rfl rfl d_Fa_isOfSameThing_27 (gT ⟨h8, h19⟩)
end
section
theorem mn_co : Cond.code Lib.Math.min.name Lib.Math.min.code 2 (some .int) ∈ TB := tb2 223 rfl rfl
theorem mn_st : Cond.static Lib.Math.min.name ∈ TB := tb2 222 rfl rfl
theorem mn_in : Cond.initialized "java/lang/Math" ∈ TB := tb1 22 rfl rfl
theorem mn_Pv : Cond.methodLink "ProofGate$Prover" 143 Lib.Math.min.name ∈ TB := tb2 221 rfl rfl
theorem mn_Ck : Cond.methodLink "ProofGate$Checker" 105 Lib.Math.min.name ∈ TB := tb3 66 rfl rfl
theorem mn_Ar : Cond.methodLink "java/util/Arrays" 304 Lib.Math.min.name ∈ TB := tb4 55 rfl rfl
theorem mx_co : Cond.code Lib.Math.max.name Lib.Math.max.code 2 (some .int) ∈ TB := tb4 22 rfl rfl
theorem mx_st : Cond.static Lib.Math.max.name ∈ TB := tb4 21 rfl rfl
theorem mx_As : Cond.methodLink "jdk/internal/util/ArraysSupport" 194 Lib.Math.max.name ∈ TB := tb4 20 rfl rfl
theorem mx_AL : Cond.methodLink "java/util/ArrayList" 79 Lib.Math.max.name ∈ TB := tb4 57 rfl rfl
section gMin
variable {l : Launch} {G : gG} {y : MethodName} {cc : ByteArray} {nL : Nat} {ret : Option FieldType} {R : Room} {mc ms : Nat} {Z : Nat → Prop} {post : Option Value → gLy → gMe → Prop} {L : gLy} {M : gMe} {cells slots : Nat} {lv : List (Option Value)} {pc : Nat} {st : List Value}
theorem V_mmin (q : Nat) {index : Nat} {x z : Int32} (hl : Cond.methodLink y.cls index Lib.Math.min.name ∈ TB) (hfr : 1 ≤ R.frames) (hlc : (st.map fun v => v.category).sum + 13 ≤ R.locals) (hc : cells ≤ R.cells) (hsl : slots ≤ R.slots) (d : decode cc pc = .ok (.invokestatic index, 3)) (hq : pc + 3 = q)
    (kk : V l G y cc nL ret R mc ms Z post L M cells slots lv q (.int (if z < x then z else x) :: st)) : V l G y cc nL ret R mc ms Z post L M cells slots lv pc (.int z :: .int x :: st) := by
  subst hq
  intro p e s m args below meth c r0 r H locs ls hC hZ hW hR hlo hls
  exact va_mmin hC.1 hC.2.1 (hC.2.2.2.1.trans hls.1.1.symm) hC.2.2.2.2.1 (hW.t hl) (hW.t mn_st) (hW.t mn_in) (hW.t mn_co) hfr (by rw [gcat]; exact hlc) hc hsl d (kk p e s m args below meth c r0 r H locs ls hC hZ hW hR hlo hls)
theorem V_mmax (q : Nat) {index : Nat} {x z : Int32} (hl : Cond.methodLink y.cls index Lib.Math.max.name ∈ TB) (hfr : 1 ≤ R.frames) (hlc : (st.map fun v => v.category).sum + 13 ≤ R.locals) (hc : cells ≤ R.cells) (hsl : slots ≤ R.slots) (d : decode cc pc = .ok (.invokestatic index, 3)) (hq : pc + 3 = q)
    (kk : V l G y cc nL ret R mc ms Z post L M cells slots lv q (.int (if x < z then z else x) :: st)) : V l G y cc nL ret R mc ms Z post L M cells slots lv pc (.int z :: .int x :: st) := by
  subst hq
  intro p e s m args below meth c r0 r H locs ls hC hZ hW hR hlo hls
  exact va_mmax hC.1 hC.2.1 (hC.2.2.2.1.trans hls.1.1.symm) hC.2.2.2.2.1 (hW.t hl) (hW.t mx_st) (hW.t mn_in) (hW.t mx_co) hfr (by rw [gcat]; exact hlc) hc hsl d (kk p e s m args below meth c r0 r H locs ls hC hZ hW hR hlo hls)
end gMin
end
section
/-! loops of the prover; JDK's fill -/
/-- n rounds of f, from k on -/
def itN (f : Nat → gMe → gMe) : Nat → Nat → gMe → gMe
  | 0, _, M => M
  | d + 1, k, M => itN f d (k + 1) (f k M)
theorem itN_s {f : Nat → gMe → gMe} {d k : Nat} {M M1 : gMe} {F : gMe → gMe} {T : gMe} (hT : F (itN f (d + 1) k M) = T) (e : f k M = M1) : F (itN f d (k + 1) M1) = T := by
  subst e; exact hT
def mayN (a x r : Nat) : Nat := 36 + (6 * a + x) * 4 + r
def spkN (b a : Nat) : Nat := 6 * b + a
def truN (a b r d : Nat) : Nat := 180 + ((6 * a + b) * 4 + r) * 4 + d
theorem mayN_lt {a x r : Nat} (ha : a < 6) (hx : x < 6) (hr : r < 4) : mayN a x r < 756 := by unfold mayN; omega
theorem spkN_lt {b a : Nat} (hb : b < 6) (ha : a < 6) : spkN b a < 756 := by unfold spkN; omega
theorem truN_lt {a b r d : Nat} (ha : a < 6) (hb : b < 6) (hr : r < 4) (hd : d < 4) : truN a b r d < 756 := by unfold truN; omega
theorem may_nI (a x r : Nat) : 36 + (6 * nI a + nI x) * 4 + nI r = nI (mayN a x r) := by
  show nI 36 + (nI 6 * nI a + nI x) * nI 4 + nI r = _
  simp only [nI_add, pk_mul]
  rfl
theorem spk_nI (b a : Nat) : 6 * nI b + nI a = nI (spkN b a) := by
  show nI 6 * nI b + nI a = _
  simp only [nI_add, pk_mul]
  rfl
theorem tru_nI (a b r d : Nat) : 180 + ((6 * nI a + nI b) * 4 + nI r) * 4 + nI d = nI (truN a b r d) := by
  show nI 180 + ((nI 6 * nI a + nI b) * nI 4 + nI r) * nI 4 + nI d = _
  simp only [nI_add, pk_mul]
  rfl
theorem min_nI {a b : Nat} (ha : a < 100) (hb : b < 100) : (if nI b < nI a then nI b else nI a) = nI (min a b) := by
  by_cases h : b < a
  · rw [if_pos (nI_lt h (by omega)), Nat.min_eq_right (by omega)]
  · rw [if_neg (nI_nlt (by omega) (by omega)), Nat.min_eq_left (by omega)]
/-- the first n places of the row at a hold v -/
def mfill (M : gMe) (a : Nat) (v : Int32) (n : Nat) : gMe := va_up M a (fun j => if j < n then v else M a j)
theorem mfill_0 (M : gMe) (a : Nat) (v : Int32) : mfill M a v 0 = M := by
  unfold mfill
  rw [show (fun j => if j < 0 then v else M a j) = M a from funext (fun j => if_neg (Nat.not_lt_zero j)), va_up_id]
theorem mfill_s (M : gMe) (a : Nat) (v : Int32) (n : Nat) : gst (mfill M a v n) a n v = mfill M a v (n + 1) := by
  funext b j
  rw [gst_at]
  unfold mfill va_up
  by_cases hb : b = a
  · simp only [hb, if_true]
    by_cases hj : j = n
    · rw [if_pos hj, if_pos (by omega)]
    · rw [if_neg hj]
      by_cases h : j < n
      · rw [if_pos h, if_pos (by omega)]
      · rw [if_neg h, if_neg (by omega)]
  · simp only [hb, if_false]
set_option maxRecDepth 100000 in
set_option maxHeartbeats 4000000 in
theorem c_Ar_fill (l : Launch) (G : gG) (L : gLy) (M : gMe) (a n : Nat) (hA : L a = some (.inl (0, n, none))) (hn : n < 1000) (v : Int32) : gMet l G y_Ar_fill b_Ar_fill 4 none (rmL 1 0 0) [.ref a, .int v] L M gAll (gPo none L (mfill M a v n)) 0 0 := by
  have lp : ∀ (d k : Nat), k + d = n → V l G y_Ar_fill b_Ar_fill 4 none (rmL 1 0 0) 0 0 gAll (gPo none L (mfill M a v n)) L (mfill M a v k) 0 0 [some (.ref a), some (.int v), some (.int (nI k)), some (.int (nI n))] 5 [] := by
    intro d
    induction d with
    | zero =>
      intro k hk
      obtain rfl : k = n := by omega
      refine V_il2 6 d_Ar_fill_5 rfl ?_
      refine V_il3 7 d_Ar_fill_6 rfl ?_
      refine V_icmp_ge 20 10 d_Ar_fill_7 (by decide) rfl (fun _ => ?_) (fun h9 => absurd (nI_le (Nat.le_refl k) (by omega)) h9)
      exact V_vret rfl d_Ar_fill_20 ⟨rfl, rfl, rfl⟩
    | succ d ih =>
      intro k hk
      have hl : k < n := by omega
      refine V_il2 6 d_Ar_fill_5 rfl ?_
      refine V_il3 7 d_Ar_fill_6 rfl ?_
      refine V_icmp_ge 20 10 d_Ar_fill_7 (by decide) rfl (fun h9 => absurd h9 (nI_ge hl (by omega))) (fun _ => ?_)
      refine V_al0 11 d_Ar_fill_10 rfl ?_
      refine V_il2 12 d_Ar_fill_11 rfl ?_
      refine V_il1 13 d_Ar_fill_12 rfl ?_
      refine V_iasn 14 (k) hA rfl hl (by omega) d_Ar_fill_13 rfl ?_
      refine V_ii2 17 (v := 1) d_Ar_fill_14 (by decide) (by decide) rfl ?_
      refine V_goto 5 d_Ar_fill_17 (by decide) ?_
      rw [nI_1, mfill_s]
      exact ih (k + 1) (by omega)
  refine gMet_of (lv := [some (.ref a), some (.int v), none, none]) (by decide) rfl (Nat.le_of_ble_eq_true rfl) rfl ?_
  refine V_iconst 1 (v := 0) (by decide) d_Ar_fill_0 rfl ?_
  refine V_is2 2 d_Ar_fill_1 (by decide) rfl ?_
  refine V_al0 3 d_Ar_fill_2 rfl ?_
  refine V_alen 4 (v := nI n) (.int) hA rfl rfl d_Ar_fill_3 rfl ?_
  refine V_is3 5 d_Ar_fill_4 (by decide) rfl ?_
  refine V_m (mfill_0 M a v).symm ?_
  exact lp n 0 (by omega)
def homX (u k : Int32) (a b r x : Nat) (M : gMe) : gMe := if pKn M (mayN b x r) then cReach M (mayN a x r) u k (nI (mayN b x r)) else M
def hom (u k : Int32) (a b r : Nat) (M : gMe) : gMe := itN (homX u k a b r) 6 0 M
set_option maxRecDepth 100000 in
set_option maxHeartbeats 4000000 in
theorem c_Pv_handOnMay (l : Launch) (G : gG) (L : gLy) (M : gMe) (hL : gLC L) (u k : Int32) (a b r : Nat) (ha : a < 6) (hb : b < 6) (hr : r < 4) : gMet l G y_Pv_handOnMay b_Pv_handOnMay 8 none (rmL 2 0 0) [.ref 10, .int u, .int k, .int (nI a), .int (nI b), .int (nI r)] L M gAll (gPo none L (hom u k a b r M)) 0 0 := by
  have lpx : ∀ (dx x : Nat) (M' : gMe), x + dx = 6 → itN (homX u k a b r) dx x M' = hom u k a b r M → ∀ zx0 : Option Value, V l G y_Pv_handOnMay b_Pv_handOnMay 8 none (rmL 2 0 0) 0 0 gAll (gPo none L (hom u k a b r M)) L (M') 0 0 [some (.ref 10), some (.int u), some (.int k), some (.int (nI a)), some (.int (nI b)), some (.int (nI r)), some (.int (nI x)), zx0] 3 [] := by
    intro dx
    induction dx with
    | zero =>
      intro x M' hxx hTx zx0
      obtain rfl : x = 6 := by omega
      refine V_il6 5 d_Pv_handOnMay_3 rfl ?_
      refine V_bipush 7 (v := 6) (by decide) d_Pv_handOnMay_5 rfl ?_
      refine V_icmp_ge 52 10 d_Pv_handOnMay_7 (by decide) rfl (fun _ => ?_) (fun h9 => absurd (show (6 : Int32) ≤ nI 6 by decide) h9)
      exact V_vret rfl d_Pv_handOnMay_52 ⟨rfl, rfl, hTx⟩
    | succ dx ihx =>
      intro x M' hxx hTx zx0
      have hlx : x < 6 := by omega
      refine V_il6 5 d_Pv_handOnMay_3 rfl ?_
      refine V_bipush 7 (v := 6) (by decide) d_Pv_handOnMay_5 rfl ?_
      refine V_icmp_ge 52 10 d_Pv_handOnMay_7 (by decide) rfl (fun h9 => absurd h9 (nI_ge (b := 6) hlx (by decide))) (fun _ => ?_)
      refine V_il4 12 d_Pv_handOnMay_10 rfl ?_
      refine V_il6 14 d_Pv_handOnMay_12 rfl ?_
      refine V_il5 16 d_Pv_handOnMay_14 rfl ?_
      refine V_cS1 19 (c_Pv_may l G _ _ _ _ _) ok_Pv_may ml_Pv_38 st_Pv_may (gRm_ok (by decide) (by decide)) rfl rfl (Nat.le_of_ble_eq_true rfl) d_Pv_handOnMay_16 ⟨Nat.le_of_ble_eq_true rfl, Nat.le_of_ble_eq_true rfl⟩ rfl ?_
      refine V_topi (may_nI b x r) ?_
      refine V_is7 21 d_Pv_handOnMay_19 (by decide) rfl ?_
      refine V_al0 22 d_Pv_handOnMay_21 rfl ?_
      refine V_il7 24 d_Pv_handOnMay_22 rfl ?_
      refine V_cV1 27 (c_Pv_isKnown l G _ _ hL (mayN b x r) (mayN_lt hb hlx hr)) ok_Pv_isKnown ml_Pv_131 im_Pv_isKnown se_Pv_isKnown (lC10 hL) kc_Pv (gRm_ok (by decide) (by decide)) rfl rfl (Nat.le_of_ble_eq_true rfl) d_Pv_handOnMay_24 ⟨Nat.le_of_ble_eq_true rfl, Nat.le_of_ble_eq_true rfl⟩ rfl ?_
      refine V_bz 46 30 d_Pv_handOnMay_27 (by decide) rfl (fun h27 => ?_) (fun h27 => ?_)
      · refine V_ii6 49 (v := 1) d_Pv_handOnMay_46 (by decide) (by decide) rfl ?_
        refine V_goto 3 d_Pv_handOnMay_49 (by decide) ?_
        rw [nI_1]
        exact ihx (x + 1) _ (by omega) (itN_s (F := fun z9 => z9) hTx (if_neg h27)) _
      · refine V_al0 31 d_Pv_handOnMay_30 rfl ?_
        refine V_il3 32 d_Pv_handOnMay_31 rfl ?_
        refine V_il6 34 d_Pv_handOnMay_32 rfl ?_
        refine V_il5 36 d_Pv_handOnMay_34 rfl ?_
        refine V_cS1 39 (c_Pv_may l G _ _ _ _ _) ok_Pv_may ml_Pv_38 st_Pv_may (gRm_ok (by decide) (by decide)) rfl rfl (Nat.le_of_ble_eq_true rfl) d_Pv_handOnMay_36 ⟨Nat.le_of_ble_eq_true rfl, Nat.le_of_ble_eq_true rfl⟩ rfl ?_
        refine V_topi (may_nI a x r) ?_
        refine V_il1 40 d_Pv_handOnMay_39 rfl ?_
        refine V_il2 41 d_Pv_handOnMay_40 rfl ?_
        refine V_il7 43 d_Pv_handOnMay_41 rfl ?_
        refine V_cV0 46 (c_Pv_reach l G _ _ hL (mayN a x r) (mayN_lt ha hlx hr) _ _ _) ok_Pv_reach ml_Pv_108 im_Pv_reach se_Pv_reach (lC10 hL) kc_Pv (gRm_ok (by decide) (by decide)) rfl rfl (Nat.le_of_ble_eq_true rfl) d_Pv_handOnMay_43 ⟨Nat.le_of_ble_eq_true rfl, Nat.le_of_ble_eq_true rfl⟩ rfl ?_
        refine V_ii6 49 (v := 1) d_Pv_handOnMay_46 (by decide) (by decide) rfl ?_
        refine V_goto 3 d_Pv_handOnMay_49 (by decide) ?_
        rw [nI_1]
        exact ihx (x + 1) _ (by omega) (itN_s (F := fun z9 => z9) hTx (if_pos h27)) _
  refine gMet_of (lv := [some (.ref 10), some (.int u), some (.int k), some (.int (nI a)), some (.int (nI b)), some (.int (nI r)), none, none]) (by decide) rfl (Nat.le_of_ble_eq_true rfl) rfl ?_
  refine V_iconst 1 (v := 0) (by decide) d_Pv_handOnMay_0 rfl ?_
  refine V_is6 3 d_Pv_handOnMay_1 (by decide) rfl ?_
  exact lpx 6 0 M (by decide) rfl _
def impX (n : Int32) (a r s x : Nat) (M : gMe) : gMe := if pKn M (mayN a x r) then cReach M (mayN a x s) 7 n (nI (mayN a x r)) else M
def imp (n : Int32) (a r s : Nat) (M : gMe) : gMe := itN (impX n a r s) 6 0 M
set_option maxRecDepth 100000 in
set_option maxHeartbeats 4000000 in
theorem c_Pv_applyImply (l : Launch) (G : gG) (L : gLy) (M : gMe) (hL : gLC L) (n : Int32) (a r s : Nat) (ha : a < 6) (hr : r < 4) (hs : s < 4) : gMet l G y_Pv_applyImply b_Pv_applyImply 7 none (rmL 2 0 0) [.ref 10, .int n, .int (nI a), .int (nI r), .int (nI s)] L M gAll (gPo none L (imp n a r s M)) 0 0 := by
  have lpx : ∀ (dx x : Nat) (M' : gMe), x + dx = 6 → itN (impX n a r s) dx x M' = imp n a r s M → ∀ zx0 : Option Value, V l G y_Pv_applyImply b_Pv_applyImply 7 none (rmL 2 0 0) 0 0 gAll (gPo none L (imp n a r s M)) L (M') 0 0 [some (.ref 10), some (.int n), some (.int (nI a)), some (.int (nI r)), some (.int (nI s)), some (.int (nI x)), zx0] 3 [] := by
    intro dx
    induction dx with
    | zero =>
      intro x M' hxx hTx zx0
      obtain rfl : x = 6 := by omega
      refine V_il5 5 d_Pv_applyImply_3 rfl ?_
      refine V_bipush 7 (v := 6) (by decide) d_Pv_applyImply_5 rfl ?_
      refine V_icmp_ge 51 10 d_Pv_applyImply_7 (by decide) rfl (fun _ => ?_) (fun h9 => absurd (show (6 : Int32) ≤ nI 6 by decide) h9)
      exact V_vret rfl d_Pv_applyImply_51 ⟨rfl, rfl, hTx⟩
    | succ dx ihx =>
      intro x M' hxx hTx zx0
      have hlx : x < 6 := by omega
      refine V_il5 5 d_Pv_applyImply_3 rfl ?_
      refine V_bipush 7 (v := 6) (by decide) d_Pv_applyImply_5 rfl ?_
      refine V_icmp_ge 51 10 d_Pv_applyImply_7 (by decide) rfl (fun h9 => absurd h9 (nI_ge (b := 6) hlx (by decide))) (fun _ => ?_)
      refine V_il2 11 d_Pv_applyImply_10 rfl ?_
      refine V_il5 13 d_Pv_applyImply_11 rfl ?_
      refine V_il3 14 d_Pv_applyImply_13 rfl ?_
      refine V_cS1 17 (c_Pv_may l G _ _ _ _ _) ok_Pv_may ml_Pv_38 st_Pv_may (gRm_ok (by decide) (by decide)) rfl rfl (Nat.le_of_ble_eq_true rfl) d_Pv_applyImply_14 ⟨Nat.le_of_ble_eq_true rfl, Nat.le_of_ble_eq_true rfl⟩ rfl ?_
      refine V_topi (may_nI a x r) ?_
      refine V_is6 19 d_Pv_applyImply_17 (by decide) rfl ?_
      refine V_al0 20 d_Pv_applyImply_19 rfl ?_
      refine V_il6 22 d_Pv_applyImply_20 rfl ?_
      refine V_cV1 25 (c_Pv_isKnown l G _ _ hL (mayN a x r) (mayN_lt ha hlx hr)) ok_Pv_isKnown ml_Pv_131 im_Pv_isKnown se_Pv_isKnown (lC10 hL) kc_Pv (gRm_ok (by decide) (by decide)) rfl rfl (Nat.le_of_ble_eq_true rfl) d_Pv_applyImply_22 ⟨Nat.le_of_ble_eq_true rfl, Nat.le_of_ble_eq_true rfl⟩ rfl ?_
      refine V_bz 45 28 d_Pv_applyImply_25 (by decide) rfl (fun h25 => ?_) (fun h25 => ?_)
      · refine V_ii5 48 (v := 1) d_Pv_applyImply_45 (by decide) (by decide) rfl ?_
        refine V_goto 3 d_Pv_applyImply_48 (by decide) ?_
        rw [nI_1]
        exact ihx (x + 1) _ (by omega) (itN_s (F := fun z9 => z9) hTx (if_neg h25)) _
      · refine V_al0 29 d_Pv_applyImply_28 rfl ?_
        refine V_il2 30 d_Pv_applyImply_29 rfl ?_
        refine V_il5 32 d_Pv_applyImply_30 rfl ?_
        refine V_il4 34 d_Pv_applyImply_32 rfl ?_
        refine V_cS1 37 (c_Pv_may l G _ _ _ _ _) ok_Pv_may ml_Pv_38 st_Pv_may (gRm_ok (by decide) (by decide)) rfl rfl (Nat.le_of_ble_eq_true rfl) d_Pv_applyImply_34 ⟨Nat.le_of_ble_eq_true rfl, Nat.le_of_ble_eq_true rfl⟩ rfl ?_
        refine V_topi (may_nI a x s) ?_
        refine V_bipush 39 (v := 7) (by decide) d_Pv_applyImply_37 rfl ?_
        refine V_il1 40 d_Pv_applyImply_39 rfl ?_
        refine V_il6 42 d_Pv_applyImply_40 rfl ?_
        refine V_cV0 45 (c_Pv_reach l G _ _ hL (mayN a x s) (mayN_lt ha hlx hs) _ _ _) ok_Pv_reach ml_Pv_108 im_Pv_reach se_Pv_reach (lC10 hL) kc_Pv (gRm_ok (by decide) (by decide)) rfl rfl (Nat.le_of_ble_eq_true rfl) d_Pv_applyImply_42 ⟨Nat.le_of_ble_eq_true rfl, Nat.le_of_ble_eq_true rfl⟩ rfl ?_
        refine V_ii5 48 (v := 1) d_Pv_applyImply_45 (by decide) (by decide) rfl ?_
        refine V_goto 3 d_Pv_applyImply_48 (by decide) ?_
        rw [nI_1]
        exact ihx (x + 1) _ (by omega) (itN_s (F := fun z9 => z9) hTx (if_pos h25)) _
  refine gMet_of (lv := [some (.ref 10), some (.int n), some (.int (nI a)), some (.int (nI r)), some (.int (nI s)), none, none]) (by decide) rfl (Nat.le_of_ble_eq_true rfl) rfl ?_
  refine V_iconst 1 (v := 0) (by decide) d_Pv_applyImply_0 rfl ?_
  refine V_is5 3 d_Pv_applyImply_1 (by decide) rfl ?_
  exact lpx 6 0 M (by decide) rfl _
def hovX (c b a : Nat) (M : gMe) : gMe := if pKn M (spkN b a) then cReach M (spkN c a) 6 (nI (spkN c b)) (nI (spkN b a)) else M
def hov (c b : Nat) (M : gMe) : gMe := itN (hovX c b) 6 0 M
set_option maxRecDepth 100000 in
set_option maxHeartbeats 4000000 in
theorem c_Pv_handOnVoice (l : Launch) (G : gG) (L : gLy) (M : gMe) (hL : gLC L) (c b : Nat) (hc : c < 6) (hb : b < 6) : gMet l G y_Pv_handOnVoice b_Pv_handOnVoice 5 none (rmL 2 0 0) [.ref 10, .int (nI c), .int (nI b)] L M gAll (gPo none L (hov c b M)) 0 0 := by
  have lpa : ∀ (da a : Nat) (M' : gMe), a + da = 6 → itN (hovX c b) da a M' = hov c b M → ∀ za0 : Option Value, V l G y_Pv_handOnVoice b_Pv_handOnVoice 5 none (rmL 2 0 0) 0 0 gAll (gPo none L (hov c b M)) L (M') 0 0 [some (.ref 10), some (.int (nI c)), some (.int (nI b)), some (.int (nI a)), za0] 2 [] := by
    intro da
    induction da with
    | zero =>
      intro a M' hxa hTa za0
      obtain rfl : a = 6 := by omega
      refine V_il3 3 d_Pv_handOnVoice_2 rfl ?_
      refine V_bipush 5 (v := 6) (by decide) d_Pv_handOnVoice_3 rfl ?_
      refine V_icmp_ge 48 8 d_Pv_handOnVoice_5 (by decide) rfl (fun _ => ?_) (fun h9 => absurd (show (6 : Int32) ≤ nI 6 by decide) h9)
      exact V_vret rfl d_Pv_handOnVoice_48 ⟨rfl, rfl, hTa⟩
    | succ da iha =>
      intro a M' hxa hTa za0
      have hla : a < 6 := by omega
      refine V_il3 3 d_Pv_handOnVoice_2 rfl ?_
      refine V_bipush 5 (v := 6) (by decide) d_Pv_handOnVoice_3 rfl ?_
      refine V_icmp_ge 48 8 d_Pv_handOnVoice_5 (by decide) rfl (fun h9 => absurd h9 (nI_ge (b := 6) hla (by decide))) (fun _ => ?_)
      refine V_il2 9 d_Pv_handOnVoice_8 rfl ?_
      refine V_il3 10 d_Pv_handOnVoice_9 rfl ?_
      refine V_cS1 13 (c_Pv_speaks l G _ _ _ _) ok_Pv_speaks ml_Pv_123 st_Pv_speaks (gRm_ok (by decide) (by decide)) rfl rfl (Nat.le_of_ble_eq_true rfl) d_Pv_handOnVoice_10 ⟨Nat.le_of_ble_eq_true rfl, Nat.le_of_ble_eq_true rfl⟩ rfl ?_
      refine V_topi (spk_nI b a) ?_
      refine V_is4 15 d_Pv_handOnVoice_13 (by decide) rfl ?_
      refine V_al0 16 d_Pv_handOnVoice_15 rfl ?_
      refine V_il4 18 d_Pv_handOnVoice_16 rfl ?_
      refine V_cV1 21 (c_Pv_isKnown l G _ _ hL (spkN b a) (spkN_lt hb hla)) ok_Pv_isKnown ml_Pv_131 im_Pv_isKnown se_Pv_isKnown (lC10 hL) kc_Pv (gRm_ok (by decide) (by decide)) rfl rfl (Nat.le_of_ble_eq_true rfl) d_Pv_handOnVoice_18 ⟨Nat.le_of_ble_eq_true rfl, Nat.le_of_ble_eq_true rfl⟩ rfl ?_
      refine V_bz 42 24 d_Pv_handOnVoice_21 (by decide) rfl (fun h21 => ?_) (fun h21 => ?_)
      · refine V_ii3 45 (v := 1) d_Pv_handOnVoice_42 (by decide) (by decide) rfl ?_
        refine V_goto 2 d_Pv_handOnVoice_45 (by decide) ?_
        rw [nI_1]
        exact iha (a + 1) _ (by omega) (itN_s (F := fun z9 => z9) hTa (if_neg h21)) _
      · refine V_al0 25 d_Pv_handOnVoice_24 rfl ?_
        refine V_il1 26 d_Pv_handOnVoice_25 rfl ?_
        refine V_il3 27 d_Pv_handOnVoice_26 rfl ?_
        refine V_cS1 30 (c_Pv_speaks l G _ _ _ _) ok_Pv_speaks ml_Pv_123 st_Pv_speaks (gRm_ok (by decide) (by decide)) rfl rfl (Nat.le_of_ble_eq_true rfl) d_Pv_handOnVoice_27 ⟨Nat.le_of_ble_eq_true rfl, Nat.le_of_ble_eq_true rfl⟩ rfl ?_
        refine V_topi (spk_nI c a) ?_
        refine V_bipush 32 (v := 6) (by decide) d_Pv_handOnVoice_30 rfl ?_
        refine V_il1 33 d_Pv_handOnVoice_32 rfl ?_
        refine V_il2 34 d_Pv_handOnVoice_33 rfl ?_
        refine V_cS1 37 (c_Pv_speaks l G _ _ _ _) ok_Pv_speaks ml_Pv_123 st_Pv_speaks (gRm_ok (by decide) (by decide)) rfl rfl (Nat.le_of_ble_eq_true rfl) d_Pv_handOnVoice_34 ⟨Nat.le_of_ble_eq_true rfl, Nat.le_of_ble_eq_true rfl⟩ rfl ?_
        refine V_topi (spk_nI c b) ?_
        refine V_il4 39 d_Pv_handOnVoice_37 rfl ?_
        refine V_cV0 42 (c_Pv_reach l G _ _ hL (spkN c a) (spkN_lt hc hla) _ _ _) ok_Pv_reach ml_Pv_108 im_Pv_reach se_Pv_reach (lC10 hL) kc_Pv (gRm_ok (by decide) (by decide)) rfl rfl (Nat.le_of_ble_eq_true rfl) d_Pv_handOnVoice_39 ⟨Nat.le_of_ble_eq_true rfl, Nat.le_of_ble_eq_true rfl⟩ rfl ?_
        refine V_ii3 45 (v := 1) d_Pv_handOnVoice_42 (by decide) (by decide) rfl ?_
        refine V_goto 2 d_Pv_handOnVoice_45 (by decide) ?_
        rw [nI_1]
        exact iha (a + 1) _ (by omega) (itN_s (F := fun z9 => z9) hTa (if_pos h21)) _
  refine gMet_of (lv := [some (.ref 10), some (.int (nI c)), some (.int (nI b)), none, none]) (by decide) rfl (Nat.le_of_ble_eq_true rfl) rfl ?_
  refine V_iconst 1 (v := 0) (by decide) d_Pv_handOnVoice_0 rfl ?_
  refine V_is3 2 d_Pv_handOnVoice_1 (by decide) rfl ?_
  exact lpa 6 0 M (by decide) rfl _
def hotX (u k : Int32) (a b r m c e : Nat) (M : gMe) : gMe := if pKn M (truN b c r e) then cReach M (truN a c r (min m e)) u k (nI (truN b c r e)) else M
def hotC (u k : Int32) (a b r m c : Nat) (M : gMe) : gMe := itN (hotX u k a b r m c) 4 0 M
def hot (u k : Int32) (a b r m : Nat) (M : gMe) : gMe := itN (hotC u k a b r m) 6 0 M
set_option maxRecDepth 100000 in
set_option maxHeartbeats 4000000 in
theorem c_Pv_handOnTrust (l : Launch) (G : gG) (L : gLy) (M : gMe) (hL : gLC L) (u k : Int32) (a b r m : Nat) (ha : a < 6) (hb : b < 6) (hr : r < 4) (hm : m < 4) : gMet l G y_Pv_handOnTrust b_Pv_handOnTrust 10 none (rmL 2 0 0) [.ref 10, .int u, .int k, .int (nI a), .int (nI b), .int (nI r), .int (nI m)] L M gAll (gPo none L (hot u k a b r m M)) 0 0 := by
  have lpc : ∀ (dc c : Nat) (M' : gMe), c + dc = 6 → itN (hotC u k a b r m) dc c M' = hot u k a b r m M → ∀ zc0 zc1 : Option Value, V l G y_Pv_handOnTrust b_Pv_handOnTrust 10 none (rmL 2 0 0) 0 0 gAll (gPo none L (hot u k a b r m M)) L (M') 0 0 [some (.ref 10), some (.int u), some (.int k), some (.int (nI a)), some (.int (nI b)), some (.int (nI r)), some (.int (nI m)), some (.int (nI c)), zc0, zc1] 3 [] := by
    intro dc
    induction dc with
    | zero =>
      intro c M' hxc hTc zc0 zc1
      obtain rfl : c = 6 := by omega
      refine V_il7 5 d_Pv_handOnTrust_3 rfl ?_
      refine V_bipush 7 (v := 6) (by decide) d_Pv_handOnTrust_5 rfl ?_
      refine V_icmp_ge 76 10 d_Pv_handOnTrust_7 (by decide) rfl (fun _ => ?_) (fun h9 => absurd (show (6 : Int32) ≤ nI 6 by decide) h9)
      exact V_vret rfl d_Pv_handOnTrust_76 ⟨rfl, rfl, hTc⟩
    | succ dc ihc =>
      intro c M' hxc hTc zc0 zc1
      have hlc : c < 6 := by omega
      have lpe : ∀ (de e : Nat) (M2 : gMe), e + de = 4 → itN (hotC u k a b r m) dc (c + 1) (itN (hotX u k a b r m c) de e M2) = hot u k a b r m M → ∀ ze0 : Option Value, V l G y_Pv_handOnTrust b_Pv_handOnTrust 10 none (rmL 2 0 0) 0 0 gAll (gPo none L (hot u k a b r m M)) L (M2) 0 0 [some (.ref 10), some (.int u), some (.int k), some (.int (nI a)), some (.int (nI b)), some (.int (nI r)), some (.int (nI m)), some (.int (nI c)), some (.int (nI e)), ze0] 13 [] := by
        intro de
        induction de with
        | zero =>
          intro e M2 hxe hTe ze0
          obtain rfl : e = 4 := by omega
          refine V_il8 15 d_Pv_handOnTrust_13 rfl ?_
          refine V_iconst 16 (v := 4) (by decide) d_Pv_handOnTrust_15 rfl ?_
          refine V_icmp_ge 70 19 d_Pv_handOnTrust_16 (by decide) rfl (fun _ => ?_) (fun h9 => absurd (show (4 : Int32) ≤ nI 4 by decide) h9)
          refine V_ii7 73 (v := 1) d_Pv_handOnTrust_70 (by decide) (by decide) rfl ?_
          refine V_goto 3 d_Pv_handOnTrust_73 (by decide) ?_
          rw [nI_1]
          exact ihc (c + 1) _ (by omega) hTe _ _
        | succ de ihe =>
          intro e M2 hxe hTe ze0
          have hle : e < 4 := by omega
          refine V_il8 15 d_Pv_handOnTrust_13 rfl ?_
          refine V_iconst 16 (v := 4) (by decide) d_Pv_handOnTrust_15 rfl ?_
          refine V_icmp_ge 70 19 d_Pv_handOnTrust_16 (by decide) rfl (fun h9 => absurd h9 (nI_ge (b := 4) hle (by decide))) (fun _ => ?_)
          refine V_il4 21 d_Pv_handOnTrust_19 rfl ?_
          refine V_il7 23 d_Pv_handOnTrust_21 rfl ?_
          refine V_il5 25 d_Pv_handOnTrust_23 rfl ?_
          refine V_il8 27 d_Pv_handOnTrust_25 rfl ?_
          refine V_cS1 30 (c_Pv_trusts l G _ _ _ _ _ _) ok_Pv_trusts ml_Pv_127 st_Pv_trusts (gRm_ok (by decide) (by decide)) rfl rfl (Nat.le_of_ble_eq_true rfl) d_Pv_handOnTrust_27 ⟨Nat.le_of_ble_eq_true rfl, Nat.le_of_ble_eq_true rfl⟩ rfl ?_
          refine V_topi (tru_nI b c r e) ?_
          refine V_is9 32 d_Pv_handOnTrust_30 (by decide) rfl ?_
          refine V_al0 33 d_Pv_handOnTrust_32 rfl ?_
          refine V_il9 35 d_Pv_handOnTrust_33 rfl ?_
          refine V_cV1 38 (c_Pv_isKnown l G _ _ hL (truN b c r e) (truN_lt hb hlc hr hle)) ok_Pv_isKnown ml_Pv_131 im_Pv_isKnown se_Pv_isKnown (lC10 hL) kc_Pv (gRm_ok (by decide) (by decide)) rfl rfl (Nat.le_of_ble_eq_true rfl) d_Pv_handOnTrust_35 ⟨Nat.le_of_ble_eq_true rfl, Nat.le_of_ble_eq_true rfl⟩ rfl ?_
          refine V_bz 64 41 d_Pv_handOnTrust_38 (by decide) rfl (fun h38 => ?_) (fun h38 => ?_)
          · refine V_ii8 67 (v := 1) d_Pv_handOnTrust_64 (by decide) (by decide) rfl ?_
            refine V_goto 13 d_Pv_handOnTrust_67 (by decide) ?_
            rw [nI_1]
            exact ihe (e + 1) _ (by omega) (itN_s (F := fun z9 => itN (hotC u k a b r m) dc (c + 1) z9) hTe (if_neg h38)) _
          · refine V_al0 42 d_Pv_handOnTrust_41 rfl ?_
            refine V_il3 43 d_Pv_handOnTrust_42 rfl ?_
            refine V_il7 45 d_Pv_handOnTrust_43 rfl ?_
            refine V_il5 47 d_Pv_handOnTrust_45 rfl ?_
            refine V_il6 49 d_Pv_handOnTrust_47 rfl ?_
            refine V_il8 51 d_Pv_handOnTrust_49 rfl ?_
            refine V_mmin 54 mn_Pv (Nat.le_of_ble_eq_true rfl) (Nat.le_of_ble_eq_true rfl) (Nat.le_of_ble_eq_true rfl) (Nat.le_of_ble_eq_true rfl) d_Pv_handOnTrust_51 rfl ?_
            refine V_topi (min_nI (by omega) (by omega)) ?_
            refine V_cS1 57 (c_Pv_trusts l G _ _ _ _ _ _) ok_Pv_trusts ml_Pv_127 st_Pv_trusts (gRm_ok (by decide) (by decide)) rfl rfl (Nat.le_of_ble_eq_true rfl) d_Pv_handOnTrust_54 ⟨Nat.le_of_ble_eq_true rfl, Nat.le_of_ble_eq_true rfl⟩ rfl ?_
            refine V_topi (tru_nI a c r (min m e)) ?_
            refine V_il1 58 d_Pv_handOnTrust_57 rfl ?_
            refine V_il2 59 d_Pv_handOnTrust_58 rfl ?_
            refine V_il9 61 d_Pv_handOnTrust_59 rfl ?_
            refine V_cV0 64 (c_Pv_reach l G _ _ hL (truN a c r (min m e)) (truN_lt ha hlc hr (by omega)) _ _ _) ok_Pv_reach ml_Pv_108 im_Pv_reach se_Pv_reach (lC10 hL) kc_Pv (gRm_ok (by decide) (by decide)) rfl rfl (Nat.le_of_ble_eq_true rfl) d_Pv_handOnTrust_61 ⟨Nat.le_of_ble_eq_true rfl, Nat.le_of_ble_eq_true rfl⟩ rfl ?_
            refine V_ii8 67 (v := 1) d_Pv_handOnTrust_64 (by decide) (by decide) rfl ?_
            refine V_goto 13 d_Pv_handOnTrust_67 (by decide) ?_
            rw [nI_1]
            exact ihe (e + 1) _ (by omega) (itN_s (F := fun z9 => itN (hotC u k a b r m) dc (c + 1) z9) hTe (if_pos h38)) _
      refine V_il7 5 d_Pv_handOnTrust_3 rfl ?_
      refine V_bipush 7 (v := 6) (by decide) d_Pv_handOnTrust_5 rfl ?_
      refine V_icmp_ge 76 10 d_Pv_handOnTrust_7 (by decide) rfl (fun h9 => absurd h9 (nI_ge (b := 6) hlc (by decide))) (fun _ => ?_)
      refine V_iconst 11 (v := 0) (by decide) d_Pv_handOnTrust_10 rfl ?_
      refine V_is8 13 d_Pv_handOnTrust_11 (by decide) rfl ?_
      exact lpe 4 0 _ (by decide) hTc _
  refine gMet_of (lv := [some (.ref 10), some (.int u), some (.int k), some (.int (nI a)), some (.int (nI b)), some (.int (nI r)), some (.int (nI m)), none, none, none]) (by decide) rfl (Nat.le_of_ble_eq_true rfl) rfl ?_
  refine V_iconst 1 (v := 0) (by decide) d_Pv_handOnTrust_0 rfl ?_
  refine V_is7 3 d_Pv_handOnTrust_1 (by decide) rfl ?_
  exact lpc 6 0 M (by decide) rfl _ _
end
section
/-! the rounds of the prover -/
def fmvR (b a r : Nat) (M : gMe) : gMe := hom 2 (nI (spkN b a)) a b r M
def fmvA (b a : Nat) (M : gMe) : gMe := if pKn M (spkN b a) then itN (fmvR b a) 4 0 M else M
def fmvB (b : Nat) (M : gMe) : gMe := itN (fmvA b) 6 0 M
def pFmv (M : gMe) : gMe := itN fmvB 6 0 M
set_option maxRecDepth 100000 in
set_option maxHeartbeats 4000000 in
theorem c_Pv_findMayByVoice (l : Launch) (G : gG) (L : gLy) (M : gMe) (hL : gLC L) : gMet l G y_Pv_findMayByVoice b_Pv_findMayByVoice 5 none (rmL 3 0 0) [.ref 10] L M gAll (gPo none L (pFmv M)) 0 0 := by
  have lpb : ∀ (db b : Nat) (M1 : gMe), b + db = 6 → itN (fmvB) db b M1 = pFmv M → ∀ zb0 zb1 zb2 : Option Value, V l G y_Pv_findMayByVoice b_Pv_findMayByVoice 5 none (rmL 3 0 0) 0 0 gAll (gPo none L (pFmv M)) L (M1) 0 0 [some (.ref 10), some (.int (nI b)), zb0, zb1, zb2] 2 [] := by
    intro db
    induction db with
    | zero =>
      intro b M1 hxb hTb zb0 zb1 zb2
      obtain rfl : b = 6 := by omega
      refine V_il1 3 d_Pv_findMayByVoice_2 rfl ?_
      refine V_bipush 5 (v := 6) (by decide) d_Pv_findMayByVoice_3 rfl ?_
      refine V_icmp_ge 67 8 d_Pv_findMayByVoice_5 (by decide) rfl (fun _ => ?_) (fun h9 => absurd (show (6 : Int32) ≤ nI 6 by decide) h9)
      exact V_vret rfl d_Pv_findMayByVoice_67 ⟨rfl, rfl, hTb⟩
    | succ db ihb =>
      intro b M1 hxb hTb zb0 zb1 zb2
      have hlb : b < 6 := by omega
      have lpa : ∀ (da a : Nat) (M2 : gMe), a + da = 6 → itN (fmvB) db (b + 1) (itN (fmvA b) da a M2) = pFmv M → ∀ za0 za1 : Option Value, V l G y_Pv_findMayByVoice b_Pv_findMayByVoice 5 none (rmL 3 0 0) 0 0 gAll (gPo none L (pFmv M)) L (M2) 0 0 [some (.ref 10), some (.int (nI b)), some (.int (nI a)), za0, za1] 10 [] := by
        intro da
        induction da with
        | zero =>
          intro a M2 hxa hTa za0 za1
          obtain rfl : a = 6 := by omega
          refine V_il2 11 d_Pv_findMayByVoice_10 rfl ?_
          refine V_bipush 13 (v := 6) (by decide) d_Pv_findMayByVoice_11 rfl ?_
          refine V_icmp_ge 61 16 d_Pv_findMayByVoice_13 (by decide) rfl (fun _ => ?_) (fun h9 => absurd (show (6 : Int32) ≤ nI 6 by decide) h9)
          refine V_ii1 64 (v := 1) d_Pv_findMayByVoice_61 (by decide) (by decide) rfl ?_
          refine V_goto 2 d_Pv_findMayByVoice_64 (by decide) ?_
          rw [nI_1]
          exact ihb (b + 1) _ (by omega) hTa _ _ _
        | succ da iha =>
          intro a M2 hxa hTa za0 za1
          have hla : a < 6 := by omega
          have lpr : ∀ (dr r : Nat) (M3 : gMe), r + dr = 4 → itN (fmvB) db (b + 1) (itN (fmvA b) da (a + 1) (itN (fmvR b a) dr r M3)) = pFmv M → V l G y_Pv_findMayByVoice b_Pv_findMayByVoice 5 none (rmL 3 0 0) 0 0 gAll (gPo none L (pFmv M)) L (M3) 0 0 [some (.ref 10), some (.int (nI b)), some (.int (nI a)), some (.int (nI (spkN b a))), some (.int (nI r))] 33 [] := by
            intro dr
            induction dr with
            | zero =>
              intro r M3 hxr hTr 
              obtain rfl : r = 4 := by omega
              refine V_il4 35 d_Pv_findMayByVoice_33 rfl ?_
              refine V_iconst 36 (v := 4) (by decide) d_Pv_findMayByVoice_35 rfl ?_
              refine V_icmp_ge 55 39 d_Pv_findMayByVoice_36 (by decide) rfl (fun _ => ?_) (fun h9 => absurd (show (4 : Int32) ≤ nI 4 by decide) h9)
              refine V_ii2 58 (v := 1) d_Pv_findMayByVoice_55 (by decide) (by decide) rfl ?_
              refine V_goto 10 d_Pv_findMayByVoice_58 (by decide) ?_
              rw [nI_1]
              exact iha (a + 1) _ (by omega) hTr _ _
            | succ dr ihr =>
              intro r M3 hxr hTr 
              have hlr : r < 4 := by omega
              refine V_il4 35 d_Pv_findMayByVoice_33 rfl ?_
              refine V_iconst 36 (v := 4) (by decide) d_Pv_findMayByVoice_35 rfl ?_
              refine V_icmp_ge 55 39 d_Pv_findMayByVoice_36 (by decide) rfl (fun h9 => absurd h9 (nI_ge (b := 4) hlr (by decide))) (fun _ => ?_)
              refine V_al0 40 d_Pv_findMayByVoice_39 rfl ?_
              refine V_iconst 41 (v := 2) (by decide) d_Pv_findMayByVoice_40 rfl ?_
              refine V_il3 42 d_Pv_findMayByVoice_41 rfl ?_
              refine V_il2 43 d_Pv_findMayByVoice_42 rfl ?_
              refine V_il1 44 d_Pv_findMayByVoice_43 rfl ?_
              refine V_il4 46 d_Pv_findMayByVoice_44 rfl ?_
              refine V_cV0 49 (c_Pv_handOnMay l G _ _ hL _ _ a b r hla hlb hlr) ok_Pv_handOnMay ml_Pv_135 im_Pv_handOnMay se_Pv_handOnMay (lC10 hL) kc_Pv (gRm_ok (by decide) (by decide)) rfl rfl (Nat.le_of_ble_eq_true rfl) d_Pv_findMayByVoice_46 ⟨Nat.le_of_ble_eq_true rfl, Nat.le_of_ble_eq_true rfl⟩ rfl ?_
              refine V_ii4 52 (v := 1) d_Pv_findMayByVoice_49 (by decide) (by decide) rfl ?_
              refine V_goto 33 d_Pv_findMayByVoice_52 (by decide) ?_
              rw [nI_1]
              exact ihr (r + 1) _ (by omega) (itN_s (F := fun z9 => itN (fmvB) db (b + 1) (itN (fmvA b) da (a + 1) (z9))) hTr (rfl))
          refine V_il2 11 d_Pv_findMayByVoice_10 rfl ?_
          refine V_bipush 13 (v := 6) (by decide) d_Pv_findMayByVoice_11 rfl ?_
          refine V_icmp_ge 61 16 d_Pv_findMayByVoice_13 (by decide) rfl (fun h9 => absurd h9 (nI_ge (b := 6) hla (by decide))) (fun _ => ?_)
          refine V_il1 17 d_Pv_findMayByVoice_16 rfl ?_
          refine V_il2 18 d_Pv_findMayByVoice_17 rfl ?_
          refine V_cS1 21 (c_Pv_speaks l G _ _ _ _) ok_Pv_speaks ml_Pv_123 st_Pv_speaks (gRm_ok (by decide) (by decide)) rfl rfl (Nat.le_of_ble_eq_true rfl) d_Pv_findMayByVoice_18 ⟨Nat.le_of_ble_eq_true rfl, Nat.le_of_ble_eq_true rfl⟩ rfl ?_
          refine V_topi (spk_nI b a) ?_
          refine V_is3 22 d_Pv_findMayByVoice_21 (by decide) rfl ?_
          refine V_al0 23 d_Pv_findMayByVoice_22 rfl ?_
          refine V_il3 24 d_Pv_findMayByVoice_23 rfl ?_
          refine V_cV1 27 (c_Pv_isKnown l G _ _ hL (spkN b a) (spkN_lt hlb hla)) ok_Pv_isKnown ml_Pv_131 im_Pv_isKnown se_Pv_isKnown (lC10 hL) kc_Pv (gRm_ok (by decide) (by decide)) rfl rfl (Nat.le_of_ble_eq_true rfl) d_Pv_findMayByVoice_24 ⟨Nat.le_of_ble_eq_true rfl, Nat.le_of_ble_eq_true rfl⟩ rfl ?_
          refine V_bz 55 30 d_Pv_findMayByVoice_27 (by decide) rfl (fun h27 => ?_) (fun h27 => ?_)
          · refine V_ii2 58 (v := 1) d_Pv_findMayByVoice_55 (by decide) (by decide) rfl ?_
            refine V_goto 10 d_Pv_findMayByVoice_58 (by decide) ?_
            rw [nI_1]
            exact iha (a + 1) _ (by omega) (itN_s (F := fun z9 => itN (fmvB) db (b + 1) (z9)) hTa (if_neg h27)) _ _
          · refine V_iconst 31 (v := 0) (by decide) d_Pv_findMayByVoice_30 rfl ?_
            refine V_is4 33 d_Pv_findMayByVoice_31 (by decide) rfl ?_
            exact lpr 4 0 _ (by decide) (itN_s (F := fun z9 => itN (fmvB) db (b + 1) (z9)) hTa (if_pos h27))
      refine V_il1 3 d_Pv_findMayByVoice_2 rfl ?_
      refine V_bipush 5 (v := 6) (by decide) d_Pv_findMayByVoice_3 rfl ?_
      refine V_icmp_ge 67 8 d_Pv_findMayByVoice_5 (by decide) rfl (fun h9 => absurd h9 (nI_ge (b := 6) hlb (by decide))) (fun _ => ?_)
      refine V_iconst 9 (v := 0) (by decide) d_Pv_findMayByVoice_8 rfl ?_
      refine V_is2 10 d_Pv_findMayByVoice_9 (by decide) rfl ?_
      exact lpa 6 0 _ (by decide) hTb _ _
  refine gMet_of (lv := [some (.ref 10), none, none, none, none]) (by decide) rfl (Nat.le_of_ble_eq_true rfl) rfl ?_
  refine V_iconst 1 (v := 0) (by decide) d_Pv_findMayByVoice_0 rfl ?_
  refine V_is1 2 d_Pv_findMayByVoice_1 (by decide) rfl ?_
  exact lpb 6 0 M (by decide) rfl _ _ _
def ftvR (b a r : Nat) (M : gMe) : gMe := hot 5 (nI (spkN b a)) a b r 3 M
def ftvA (b a : Nat) (M : gMe) : gMe := if pKn M (spkN b a) then itN (ftvR b a) 4 0 M else M
def ftvB (b : Nat) (M : gMe) : gMe := itN (ftvA b) 6 0 M
def pFtv (M : gMe) : gMe := itN ftvB 6 0 M
set_option maxRecDepth 100000 in
set_option maxHeartbeats 4000000 in
theorem c_Pv_findTrustByVoice (l : Launch) (G : gG) (L : gLy) (M : gMe) (hL : gLC L) : gMet l G y_Pv_findTrustByVoice b_Pv_findTrustByVoice 5 none (rmL 3 0 0) [.ref 10] L M gAll (gPo none L (pFtv M)) 0 0 := by
  have lpb : ∀ (db b : Nat) (M1 : gMe), b + db = 6 → itN (ftvB) db b M1 = pFtv M → ∀ zb0 zb1 zb2 : Option Value, V l G y_Pv_findTrustByVoice b_Pv_findTrustByVoice 5 none (rmL 3 0 0) 0 0 gAll (gPo none L (pFtv M)) L (M1) 0 0 [some (.ref 10), some (.int (nI b)), zb0, zb1, zb2] 2 [] := by
    intro db
    induction db with
    | zero =>
      intro b M1 hxb hTb zb0 zb1 zb2
      obtain rfl : b = 6 := by omega
      refine V_il1 3 d_Pv_findTrustByVoice_2 rfl ?_
      refine V_bipush 5 (v := 6) (by decide) d_Pv_findTrustByVoice_3 rfl ?_
      refine V_icmp_ge 68 8 d_Pv_findTrustByVoice_5 (by decide) rfl (fun _ => ?_) (fun h9 => absurd (show (6 : Int32) ≤ nI 6 by decide) h9)
      exact V_vret rfl d_Pv_findTrustByVoice_68 ⟨rfl, rfl, hTb⟩
    | succ db ihb =>
      intro b M1 hxb hTb zb0 zb1 zb2
      have hlb : b < 6 := by omega
      have lpa : ∀ (da a : Nat) (M2 : gMe), a + da = 6 → itN (ftvB) db (b + 1) (itN (ftvA b) da a M2) = pFtv M → ∀ za0 za1 : Option Value, V l G y_Pv_findTrustByVoice b_Pv_findTrustByVoice 5 none (rmL 3 0 0) 0 0 gAll (gPo none L (pFtv M)) L (M2) 0 0 [some (.ref 10), some (.int (nI b)), some (.int (nI a)), za0, za1] 10 [] := by
        intro da
        induction da with
        | zero =>
          intro a M2 hxa hTa za0 za1
          obtain rfl : a = 6 := by omega
          refine V_il2 11 d_Pv_findTrustByVoice_10 rfl ?_
          refine V_bipush 13 (v := 6) (by decide) d_Pv_findTrustByVoice_11 rfl ?_
          refine V_icmp_ge 62 16 d_Pv_findTrustByVoice_13 (by decide) rfl (fun _ => ?_) (fun h9 => absurd (show (6 : Int32) ≤ nI 6 by decide) h9)
          refine V_ii1 65 (v := 1) d_Pv_findTrustByVoice_62 (by decide) (by decide) rfl ?_
          refine V_goto 2 d_Pv_findTrustByVoice_65 (by decide) ?_
          rw [nI_1]
          exact ihb (b + 1) _ (by omega) hTa _ _ _
        | succ da iha =>
          intro a M2 hxa hTa za0 za1
          have hla : a < 6 := by omega
          have lpr : ∀ (dr r : Nat) (M3 : gMe), r + dr = 4 → itN (ftvB) db (b + 1) (itN (ftvA b) da (a + 1) (itN (ftvR b a) dr r M3)) = pFtv M → V l G y_Pv_findTrustByVoice b_Pv_findTrustByVoice 5 none (rmL 3 0 0) 0 0 gAll (gPo none L (pFtv M)) L (M3) 0 0 [some (.ref 10), some (.int (nI b)), some (.int (nI a)), some (.int (nI (spkN b a))), some (.int (nI r))] 33 [] := by
            intro dr
            induction dr with
            | zero =>
              intro r M3 hxr hTr 
              obtain rfl : r = 4 := by omega
              refine V_il4 35 d_Pv_findTrustByVoice_33 rfl ?_
              refine V_iconst 36 (v := 4) (by decide) d_Pv_findTrustByVoice_35 rfl ?_
              refine V_icmp_ge 56 39 d_Pv_findTrustByVoice_36 (by decide) rfl (fun _ => ?_) (fun h9 => absurd (show (4 : Int32) ≤ nI 4 by decide) h9)
              refine V_ii2 59 (v := 1) d_Pv_findTrustByVoice_56 (by decide) (by decide) rfl ?_
              refine V_goto 10 d_Pv_findTrustByVoice_59 (by decide) ?_
              rw [nI_1]
              exact iha (a + 1) _ (by omega) hTr _ _
            | succ dr ihr =>
              intro r M3 hxr hTr 
              have hlr : r < 4 := by omega
              refine V_il4 35 d_Pv_findTrustByVoice_33 rfl ?_
              refine V_iconst 36 (v := 4) (by decide) d_Pv_findTrustByVoice_35 rfl ?_
              refine V_icmp_ge 56 39 d_Pv_findTrustByVoice_36 (by decide) rfl (fun h9 => absurd h9 (nI_ge (b := 4) hlr (by decide))) (fun _ => ?_)
              refine V_al0 40 d_Pv_findTrustByVoice_39 rfl ?_
              refine V_iconst 41 (v := 5) (by decide) d_Pv_findTrustByVoice_40 rfl ?_
              refine V_il3 42 d_Pv_findTrustByVoice_41 rfl ?_
              refine V_il2 43 d_Pv_findTrustByVoice_42 rfl ?_
              refine V_il1 44 d_Pv_findTrustByVoice_43 rfl ?_
              refine V_il4 46 d_Pv_findTrustByVoice_44 rfl ?_
              refine V_iconst 47 (v := 3) (by decide) d_Pv_findTrustByVoice_46 rfl ?_
              refine V_cV0 50 (c_Pv_handOnTrust l G _ _ hL _ _ a b r 3 hla hlb hlr (by decide)) ok_Pv_handOnTrust ml_Pv_139 im_Pv_handOnTrust se_Pv_handOnTrust (lC10 hL) kc_Pv (gRm_ok (by decide) (by decide)) rfl rfl (Nat.le_of_ble_eq_true rfl) d_Pv_findTrustByVoice_47 ⟨Nat.le_of_ble_eq_true rfl, Nat.le_of_ble_eq_true rfl⟩ rfl ?_
              refine V_ii4 53 (v := 1) d_Pv_findTrustByVoice_50 (by decide) (by decide) rfl ?_
              refine V_goto 33 d_Pv_findTrustByVoice_53 (by decide) ?_
              rw [nI_1]
              exact ihr (r + 1) _ (by omega) (itN_s (F := fun z9 => itN (ftvB) db (b + 1) (itN (ftvA b) da (a + 1) (z9))) hTr (rfl))
          refine V_il2 11 d_Pv_findTrustByVoice_10 rfl ?_
          refine V_bipush 13 (v := 6) (by decide) d_Pv_findTrustByVoice_11 rfl ?_
          refine V_icmp_ge 62 16 d_Pv_findTrustByVoice_13 (by decide) rfl (fun h9 => absurd h9 (nI_ge (b := 6) hla (by decide))) (fun _ => ?_)
          refine V_il1 17 d_Pv_findTrustByVoice_16 rfl ?_
          refine V_il2 18 d_Pv_findTrustByVoice_17 rfl ?_
          refine V_cS1 21 (c_Pv_speaks l G _ _ _ _) ok_Pv_speaks ml_Pv_123 st_Pv_speaks (gRm_ok (by decide) (by decide)) rfl rfl (Nat.le_of_ble_eq_true rfl) d_Pv_findTrustByVoice_18 ⟨Nat.le_of_ble_eq_true rfl, Nat.le_of_ble_eq_true rfl⟩ rfl ?_
          refine V_topi (spk_nI b a) ?_
          refine V_is3 22 d_Pv_findTrustByVoice_21 (by decide) rfl ?_
          refine V_al0 23 d_Pv_findTrustByVoice_22 rfl ?_
          refine V_il3 24 d_Pv_findTrustByVoice_23 rfl ?_
          refine V_cV1 27 (c_Pv_isKnown l G _ _ hL (spkN b a) (spkN_lt hlb hla)) ok_Pv_isKnown ml_Pv_131 im_Pv_isKnown se_Pv_isKnown (lC10 hL) kc_Pv (gRm_ok (by decide) (by decide)) rfl rfl (Nat.le_of_ble_eq_true rfl) d_Pv_findTrustByVoice_24 ⟨Nat.le_of_ble_eq_true rfl, Nat.le_of_ble_eq_true rfl⟩ rfl ?_
          refine V_bz 56 30 d_Pv_findTrustByVoice_27 (by decide) rfl (fun h27 => ?_) (fun h27 => ?_)
          · refine V_ii2 59 (v := 1) d_Pv_findTrustByVoice_56 (by decide) (by decide) rfl ?_
            refine V_goto 10 d_Pv_findTrustByVoice_59 (by decide) ?_
            rw [nI_1]
            exact iha (a + 1) _ (by omega) (itN_s (F := fun z9 => itN (ftvB) db (b + 1) (z9)) hTa (if_neg h27)) _ _
          · refine V_iconst 31 (v := 0) (by decide) d_Pv_findTrustByVoice_30 rfl ?_
            refine V_is4 33 d_Pv_findTrustByVoice_31 (by decide) rfl ?_
            exact lpr 4 0 _ (by decide) (itN_s (F := fun z9 => itN (ftvB) db (b + 1) (z9)) hTa (if_pos h27))
      refine V_il1 3 d_Pv_findTrustByVoice_2 rfl ?_
      refine V_bipush 5 (v := 6) (by decide) d_Pv_findTrustByVoice_3 rfl ?_
      refine V_icmp_ge 68 8 d_Pv_findTrustByVoice_5 (by decide) rfl (fun h9 => absurd h9 (nI_ge (b := 6) hlb (by decide))) (fun _ => ?_)
      refine V_iconst 9 (v := 0) (by decide) d_Pv_findTrustByVoice_8 rfl ?_
      refine V_is2 10 d_Pv_findTrustByVoice_9 (by decide) rfl ?_
      exact lpa 6 0 _ (by decide) hTb _ _
  refine gMet_of (lv := [some (.ref 10), none, none, none, none]) (by decide) rfl (Nat.le_of_ble_eq_true rfl) rfl ?_
  refine V_iconst 1 (v := 0) (by decide) d_Pv_findTrustByVoice_0 rfl ?_
  refine V_is1 2 d_Pv_findTrustByVoice_1 (by decide) rfl ?_
  exact lpb 6 0 M (by decide) rfl _ _ _
def fmtD (b a r d : Nat) (M : gMe) : gMe := if pKn M (truN a b r d) then hom 3 (nI (truN a b r d)) a b r M else M
def fmtR (b a r : Nat) (M : gMe) : gMe := itN (fmtD b a r) 4 0 M
def fmtA (b a : Nat) (M : gMe) : gMe := itN (fmtR b a) 4 0 M
def fmtB (b : Nat) (M : gMe) : gMe := itN (fmtA b) 6 0 M
def pFmt (M : gMe) : gMe := itN fmtB 6 0 M
set_option maxRecDepth 100000 in
set_option maxHeartbeats 4000000 in
theorem c_Pv_findMayByTrust (l : Launch) (G : gG) (L : gLy) (M : gMe) (hL : gLC L) : gMet l G y_Pv_findMayByTrust b_Pv_findMayByTrust 6 none (rmL 3 0 0) [.ref 10] L M gAll (gPo none L (pFmt M)) 0 0 := by
  have lpb : ∀ (db b : Nat) (M1 : gMe), b + db = 6 → itN (fmtB) db b M1 = pFmt M → ∀ zb0 zb1 zb2 zb3 : Option Value, V l G y_Pv_findMayByTrust b_Pv_findMayByTrust 6 none (rmL 3 0 0) 0 0 gAll (gPo none L (pFmt M)) L (M1) 0 0 [some (.ref 10), some (.int (nI b)), zb0, zb1, zb2, zb3] 2 [] := by
    intro db
    induction db with
    | zero =>
      intro b M1 hxb hTb zb0 zb1 zb2 zb3
      obtain rfl : b = 6 := by omega
      refine V_il1 3 d_Pv_findMayByTrust_2 rfl ?_
      refine V_bipush 5 (v := 6) (by decide) d_Pv_findMayByTrust_3 rfl ?_
      refine V_icmp_ge 85 8 d_Pv_findMayByTrust_5 (by decide) rfl (fun _ => ?_) (fun h9 => absurd (show (6 : Int32) ≤ nI 6 by decide) h9)
      exact V_vret rfl d_Pv_findMayByTrust_85 ⟨rfl, rfl, hTb⟩
    | succ db ihb =>
      intro b M1 hxb hTb zb0 zb1 zb2 zb3
      have hlb : b < 6 := by omega
      have lpa : ∀ (da a : Nat) (M2 : gMe), a + da = 6 → itN (fmtB) db (b + 1) (itN (fmtA b) da a M2) = pFmt M → ∀ za0 za1 za2 : Option Value, V l G y_Pv_findMayByTrust b_Pv_findMayByTrust 6 none (rmL 3 0 0) 0 0 gAll (gPo none L (pFmt M)) L (M2) 0 0 [some (.ref 10), some (.int (nI b)), some (.int (nI a)), za0, za1, za2] 10 [] := by
        intro da
        induction da with
        | zero =>
          intro a M2 hxa hTa za0 za1 za2
          obtain rfl : a = 6 := by omega
          refine V_il2 11 d_Pv_findMayByTrust_10 rfl ?_
          refine V_bipush 13 (v := 6) (by decide) d_Pv_findMayByTrust_11 rfl ?_
          refine V_icmp_ge 79 16 d_Pv_findMayByTrust_13 (by decide) rfl (fun _ => ?_) (fun h9 => absurd (show (6 : Int32) ≤ nI 6 by decide) h9)
          refine V_ii1 82 (v := 1) d_Pv_findMayByTrust_79 (by decide) (by decide) rfl ?_
          refine V_goto 2 d_Pv_findMayByTrust_82 (by decide) ?_
          rw [nI_1]
          exact ihb (b + 1) _ (by omega) hTa _ _ _ _
        | succ da iha =>
          intro a M2 hxa hTa za0 za1 za2
          have hla : a < 6 := by omega
          have lpr : ∀ (dr r : Nat) (M3 : gMe), r + dr = 4 → itN (fmtB) db (b + 1) (itN (fmtA b) da (a + 1) (itN (fmtR b a) dr r M3)) = pFmt M → ∀ zr0 zr1 : Option Value, V l G y_Pv_findMayByTrust b_Pv_findMayByTrust 6 none (rmL 3 0 0) 0 0 gAll (gPo none L (pFmt M)) L (M3) 0 0 [some (.ref 10), some (.int (nI b)), some (.int (nI a)), some (.int (nI r)), zr0, zr1] 18 [] := by
            intro dr
            induction dr with
            | zero =>
              intro r M3 hxr hTr zr0 zr1
              obtain rfl : r = 4 := by omega
              refine V_il3 19 d_Pv_findMayByTrust_18 rfl ?_
              refine V_iconst 20 (v := 4) (by decide) d_Pv_findMayByTrust_19 rfl ?_
              refine V_icmp_ge 73 23 d_Pv_findMayByTrust_20 (by decide) rfl (fun _ => ?_) (fun h9 => absurd (show (4 : Int32) ≤ nI 4 by decide) h9)
              refine V_ii2 76 (v := 1) d_Pv_findMayByTrust_73 (by decide) (by decide) rfl ?_
              refine V_goto 10 d_Pv_findMayByTrust_76 (by decide) ?_
              rw [nI_1]
              exact iha (a + 1) _ (by omega) hTr _ _ _
            | succ dr ihr =>
              intro r M3 hxr hTr zr0 zr1
              have hlr : r < 4 := by omega
              have lpd : ∀ (dd d : Nat) (M4 : gMe), d + dd = 4 → itN (fmtB) db (b + 1) (itN (fmtA b) da (a + 1) (itN (fmtR b a) dr (r + 1) (itN (fmtD b a r) dd d M4))) = pFmt M → ∀ zd0 : Option Value, V l G y_Pv_findMayByTrust b_Pv_findMayByTrust 6 none (rmL 3 0 0) 0 0 gAll (gPo none L (pFmt M)) L (M4) 0 0 [some (.ref 10), some (.int (nI b)), some (.int (nI a)), some (.int (nI r)), some (.int (nI d)), zd0] 26 [] := by
                intro dd
                induction dd with
                | zero =>
                  intro d M4 hxd hTd zd0
                  obtain rfl : d = 4 := by omega
                  refine V_il4 28 d_Pv_findMayByTrust_26 rfl ?_
                  refine V_iconst 29 (v := 4) (by decide) d_Pv_findMayByTrust_28 rfl ?_
                  refine V_icmp_ge 67 32 d_Pv_findMayByTrust_29 (by decide) rfl (fun _ => ?_) (fun h9 => absurd (show (4 : Int32) ≤ nI 4 by decide) h9)
                  refine V_ii3 70 (v := 1) d_Pv_findMayByTrust_67 (by decide) (by decide) rfl ?_
                  refine V_goto 18 d_Pv_findMayByTrust_70 (by decide) ?_
                  rw [nI_1]
                  exact ihr (r + 1) _ (by omega) hTd _ _
                | succ dd ihd =>
                  intro d M4 hxd hTd zd0
                  have hld : d < 4 := by omega
                  refine V_il4 28 d_Pv_findMayByTrust_26 rfl ?_
                  refine V_iconst 29 (v := 4) (by decide) d_Pv_findMayByTrust_28 rfl ?_
                  refine V_icmp_ge 67 32 d_Pv_findMayByTrust_29 (by decide) rfl (fun h9 => absurd h9 (nI_ge (b := 4) hld (by decide))) (fun _ => ?_)
                  refine V_il2 33 d_Pv_findMayByTrust_32 rfl ?_
                  refine V_il1 34 d_Pv_findMayByTrust_33 rfl ?_
                  refine V_il3 35 d_Pv_findMayByTrust_34 rfl ?_
                  refine V_il4 37 d_Pv_findMayByTrust_35 rfl ?_
                  refine V_cS1 40 (c_Pv_trusts l G _ _ _ _ _ _) ok_Pv_trusts ml_Pv_127 st_Pv_trusts (gRm_ok (by decide) (by decide)) rfl rfl (Nat.le_of_ble_eq_true rfl) d_Pv_findMayByTrust_37 ⟨Nat.le_of_ble_eq_true rfl, Nat.le_of_ble_eq_true rfl⟩ rfl ?_
                  refine V_topi (tru_nI a b r d) ?_
                  refine V_is5 42 d_Pv_findMayByTrust_40 (by decide) rfl ?_
                  refine V_al0 43 d_Pv_findMayByTrust_42 rfl ?_
                  refine V_il5 45 d_Pv_findMayByTrust_43 rfl ?_
                  refine V_cV1 48 (c_Pv_isKnown l G _ _ hL (truN a b r d) (truN_lt hla hlb hlr hld)) ok_Pv_isKnown ml_Pv_131 im_Pv_isKnown se_Pv_isKnown (lC10 hL) kc_Pv (gRm_ok (by decide) (by decide)) rfl rfl (Nat.le_of_ble_eq_true rfl) d_Pv_findMayByTrust_45 ⟨Nat.le_of_ble_eq_true rfl, Nat.le_of_ble_eq_true rfl⟩ rfl ?_
                  refine V_bz 61 51 d_Pv_findMayByTrust_48 (by decide) rfl (fun h48 => ?_) (fun h48 => ?_)
                  · refine V_ii4 64 (v := 1) d_Pv_findMayByTrust_61 (by decide) (by decide) rfl ?_
                    refine V_goto 26 d_Pv_findMayByTrust_64 (by decide) ?_
                    rw [nI_1]
                    exact ihd (d + 1) _ (by omega) (itN_s (F := fun z9 => itN (fmtB) db (b + 1) (itN (fmtA b) da (a + 1) (itN (fmtR b a) dr (r + 1) (z9)))) hTd (if_neg h48)) _
                  · refine V_al0 52 d_Pv_findMayByTrust_51 rfl ?_
                    refine V_iconst 53 (v := 3) (by decide) d_Pv_findMayByTrust_52 rfl ?_
                    refine V_il5 55 d_Pv_findMayByTrust_53 rfl ?_
                    refine V_il2 56 d_Pv_findMayByTrust_55 rfl ?_
                    refine V_il1 57 d_Pv_findMayByTrust_56 rfl ?_
                    refine V_il3 58 d_Pv_findMayByTrust_57 rfl ?_
                    refine V_cV0 61 (c_Pv_handOnMay l G _ _ hL _ _ a b r hla hlb hlr) ok_Pv_handOnMay ml_Pv_135 im_Pv_handOnMay se_Pv_handOnMay (lC10 hL) kc_Pv (gRm_ok (by decide) (by decide)) rfl rfl (Nat.le_of_ble_eq_true rfl) d_Pv_findMayByTrust_58 ⟨Nat.le_of_ble_eq_true rfl, Nat.le_of_ble_eq_true rfl⟩ rfl ?_
                    refine V_ii4 64 (v := 1) d_Pv_findMayByTrust_61 (by decide) (by decide) rfl ?_
                    refine V_goto 26 d_Pv_findMayByTrust_64 (by decide) ?_
                    rw [nI_1]
                    exact ihd (d + 1) _ (by omega) (itN_s (F := fun z9 => itN (fmtB) db (b + 1) (itN (fmtA b) da (a + 1) (itN (fmtR b a) dr (r + 1) (z9)))) hTd (if_pos h48)) _
              refine V_il3 19 d_Pv_findMayByTrust_18 rfl ?_
              refine V_iconst 20 (v := 4) (by decide) d_Pv_findMayByTrust_19 rfl ?_
              refine V_icmp_ge 73 23 d_Pv_findMayByTrust_20 (by decide) rfl (fun h9 => absurd h9 (nI_ge (b := 4) hlr (by decide))) (fun _ => ?_)
              refine V_iconst 24 (v := 0) (by decide) d_Pv_findMayByTrust_23 rfl ?_
              refine V_is4 26 d_Pv_findMayByTrust_24 (by decide) rfl ?_
              exact lpd 4 0 _ (by decide) hTr _
          refine V_il2 11 d_Pv_findMayByTrust_10 rfl ?_
          refine V_bipush 13 (v := 6) (by decide) d_Pv_findMayByTrust_11 rfl ?_
          refine V_icmp_ge 79 16 d_Pv_findMayByTrust_13 (by decide) rfl (fun h9 => absurd h9 (nI_ge (b := 6) hla (by decide))) (fun _ => ?_)
          refine V_iconst 17 (v := 0) (by decide) d_Pv_findMayByTrust_16 rfl ?_
          refine V_is3 18 d_Pv_findMayByTrust_17 (by decide) rfl ?_
          exact lpr 4 0 _ (by decide) hTa _ _
      refine V_il1 3 d_Pv_findMayByTrust_2 rfl ?_
      refine V_bipush 5 (v := 6) (by decide) d_Pv_findMayByTrust_3 rfl ?_
      refine V_icmp_ge 85 8 d_Pv_findMayByTrust_5 (by decide) rfl (fun h9 => absurd h9 (nI_ge (b := 6) hlb (by decide))) (fun _ => ?_)
      refine V_iconst 9 (v := 0) (by decide) d_Pv_findMayByTrust_8 rfl ?_
      refine V_is2 10 d_Pv_findMayByTrust_9 (by decide) rfl ?_
      exact lpa 6 0 _ (by decide) hTb _ _ _
  refine gMet_of (lv := [some (.ref 10), none, none, none, none, none]) (by decide) rfl (Nat.le_of_ble_eq_true rfl) rfl ?_
  refine V_iconst 1 (v := 0) (by decide) d_Pv_findMayByTrust_0 rfl ?_
  refine V_is1 2 d_Pv_findMayByTrust_1 (by decide) rfl ?_
  exact lpb 6 0 M (by decide) rfl _ _ _ _
def fttD (b a r d : Nat) (M : gMe) : gMe := if pKn M (truN a b r d) then hot 4 (nI (truN a b r d)) a b r (d - 1) M else M
def fttR (b a r : Nat) (M : gMe) : gMe := itN (fttD b a r) 3 1 M
def fttA (b a : Nat) (M : gMe) : gMe := itN (fttR b a) 4 0 M
def fttB (b : Nat) (M : gMe) : gMe := itN (fttA b) 6 0 M
def pFtt (M : gMe) : gMe := itN fttB 6 0 M
theorem nI_dm {d : Nat} (h : 1 ≤ d) : nI d - 1 = nI (d - 1) := by
  obtain ⟨k, rfl⟩ : ∃ k, d = k + 1 := ⟨d - 1, by omega⟩
  rw [nI_pred]; rfl
set_option maxRecDepth 100000 in
set_option maxHeartbeats 4000000 in
theorem c_Pv_findTrustByTrust (l : Launch) (G : gG) (L : gLy) (M : gMe) (hL : gLC L) : gMet l G y_Pv_findTrustByTrust b_Pv_findTrustByTrust 6 none (rmL 3 0 0) [.ref 10] L M gAll (gPo none L (pFtt M)) 0 0 := by
  have lpb : ∀ (db b : Nat) (M1 : gMe), b + db = 6 → itN (fttB) db b M1 = pFtt M → ∀ zb0 zb1 zb2 zb3 : Option Value, V l G y_Pv_findTrustByTrust b_Pv_findTrustByTrust 6 none (rmL 3 0 0) 0 0 gAll (gPo none L (pFtt M)) L (M1) 0 0 [some (.ref 10), some (.int (nI b)), zb0, zb1, zb2, zb3] 2 [] := by
    intro db
    induction db with
    | zero =>
      intro b M1 hxb hTb zb0 zb1 zb2 zb3
      obtain rfl : b = 6 := by omega
      refine V_il1 3 d_Pv_findTrustByTrust_2 rfl ?_
      refine V_bipush 5 (v := 6) (by decide) d_Pv_findTrustByTrust_3 rfl ?_
      refine V_icmp_ge 89 8 d_Pv_findTrustByTrust_5 (by decide) rfl (fun _ => ?_) (fun h9 => absurd (show (6 : Int32) ≤ nI 6 by decide) h9)
      exact V_vret rfl d_Pv_findTrustByTrust_89 ⟨rfl, rfl, hTb⟩
    | succ db ihb =>
      intro b M1 hxb hTb zb0 zb1 zb2 zb3
      have hlb : b < 6 := by omega
      have lpa : ∀ (da a : Nat) (M2 : gMe), a + da = 6 → itN (fttB) db (b + 1) (itN (fttA b) da a M2) = pFtt M → ∀ za0 za1 za2 : Option Value, V l G y_Pv_findTrustByTrust b_Pv_findTrustByTrust 6 none (rmL 3 0 0) 0 0 gAll (gPo none L (pFtt M)) L (M2) 0 0 [some (.ref 10), some (.int (nI b)), some (.int (nI a)), za0, za1, za2] 10 [] := by
        intro da
        induction da with
        | zero =>
          intro a M2 hxa hTa za0 za1 za2
          obtain rfl : a = 6 := by omega
          refine V_il2 11 d_Pv_findTrustByTrust_10 rfl ?_
          refine V_bipush 13 (v := 6) (by decide) d_Pv_findTrustByTrust_11 rfl ?_
          refine V_icmp_ge 83 16 d_Pv_findTrustByTrust_13 (by decide) rfl (fun _ => ?_) (fun h9 => absurd (show (6 : Int32) ≤ nI 6 by decide) h9)
          refine V_ii1 86 (v := 1) d_Pv_findTrustByTrust_83 (by decide) (by decide) rfl ?_
          refine V_goto 2 d_Pv_findTrustByTrust_86 (by decide) ?_
          rw [nI_1]
          exact ihb (b + 1) _ (by omega) hTa _ _ _ _
        | succ da iha =>
          intro a M2 hxa hTa za0 za1 za2
          have hla : a < 6 := by omega
          have lpr : ∀ (dr r : Nat) (M3 : gMe), r + dr = 4 → itN (fttB) db (b + 1) (itN (fttA b) da (a + 1) (itN (fttR b a) dr r M3)) = pFtt M → ∀ zr0 zr1 : Option Value, V l G y_Pv_findTrustByTrust b_Pv_findTrustByTrust 6 none (rmL 3 0 0) 0 0 gAll (gPo none L (pFtt M)) L (M3) 0 0 [some (.ref 10), some (.int (nI b)), some (.int (nI a)), some (.int (nI r)), zr0, zr1] 18 [] := by
            intro dr
            induction dr with
            | zero =>
              intro r M3 hxr hTr zr0 zr1
              obtain rfl : r = 4 := by omega
              refine V_il3 19 d_Pv_findTrustByTrust_18 rfl ?_
              refine V_iconst 20 (v := 4) (by decide) d_Pv_findTrustByTrust_19 rfl ?_
              refine V_icmp_ge 77 23 d_Pv_findTrustByTrust_20 (by decide) rfl (fun _ => ?_) (fun h9 => absurd (show (4 : Int32) ≤ nI 4 by decide) h9)
              refine V_ii2 80 (v := 1) d_Pv_findTrustByTrust_77 (by decide) (by decide) rfl ?_
              refine V_goto 10 d_Pv_findTrustByTrust_80 (by decide) ?_
              rw [nI_1]
              exact iha (a + 1) _ (by omega) hTr _ _ _
            | succ dr ihr =>
              intro r M3 hxr hTr zr0 zr1
              have hlr : r < 4 := by omega
              have lpd : ∀ (dd d : Nat) (M4 : gMe), d + dd = 4 ∧ 1 ≤ d → itN (fttB) db (b + 1) (itN (fttA b) da (a + 1) (itN (fttR b a) dr (r + 1) (itN (fttD b a r) dd d M4))) = pFtt M → ∀ zd0 : Option Value, V l G y_Pv_findTrustByTrust b_Pv_findTrustByTrust 6 none (rmL 3 0 0) 0 0 gAll (gPo none L (pFtt M)) L (M4) 0 0 [some (.ref 10), some (.int (nI b)), some (.int (nI a)), some (.int (nI r)), some (.int (nI d)), zd0] 26 [] := by
                intro dd
                induction dd with
                | zero =>
                  intro d M4 ⟨hxd, h1d⟩ hTd zd0
                  obtain rfl : d = 4 := by omega
                  refine V_il4 28 d_Pv_findTrustByTrust_26 rfl ?_
                  refine V_iconst 29 (v := 4) (by decide) d_Pv_findTrustByTrust_28 rfl ?_
                  refine V_icmp_ge 71 32 d_Pv_findTrustByTrust_29 (by decide) rfl (fun _ => ?_) (fun h9 => absurd (show (4 : Int32) ≤ nI 4 by decide) h9)
                  refine V_ii3 74 (v := 1) d_Pv_findTrustByTrust_71 (by decide) (by decide) rfl ?_
                  refine V_goto 18 d_Pv_findTrustByTrust_74 (by decide) ?_
                  rw [nI_1]
                  exact ihr (r + 1) _ (by omega) hTd _ _
                | succ dd ihd =>
                  intro d M4 ⟨hxd, h1d⟩ hTd zd0
                  have hld : d < 4 := by omega
                  refine V_il4 28 d_Pv_findTrustByTrust_26 rfl ?_
                  refine V_iconst 29 (v := 4) (by decide) d_Pv_findTrustByTrust_28 rfl ?_
                  refine V_icmp_ge 71 32 d_Pv_findTrustByTrust_29 (by decide) rfl (fun h9 => absurd h9 (nI_ge (b := 4) hld (by decide))) (fun _ => ?_)
                  refine V_il2 33 d_Pv_findTrustByTrust_32 rfl ?_
                  refine V_il1 34 d_Pv_findTrustByTrust_33 rfl ?_
                  refine V_il3 35 d_Pv_findTrustByTrust_34 rfl ?_
                  refine V_il4 37 d_Pv_findTrustByTrust_35 rfl ?_
                  refine V_cS1 40 (c_Pv_trusts l G _ _ _ _ _ _) ok_Pv_trusts ml_Pv_127 st_Pv_trusts (gRm_ok (by decide) (by decide)) rfl rfl (Nat.le_of_ble_eq_true rfl) d_Pv_findTrustByTrust_37 ⟨Nat.le_of_ble_eq_true rfl, Nat.le_of_ble_eq_true rfl⟩ rfl ?_
                  refine V_topi (tru_nI a b r d) ?_
                  refine V_is5 42 d_Pv_findTrustByTrust_40 (by decide) rfl ?_
                  refine V_al0 43 d_Pv_findTrustByTrust_42 rfl ?_
                  refine V_il5 45 d_Pv_findTrustByTrust_43 rfl ?_
                  refine V_cV1 48 (c_Pv_isKnown l G _ _ hL (truN a b r d) (truN_lt hla hlb hlr hld)) ok_Pv_isKnown ml_Pv_131 im_Pv_isKnown se_Pv_isKnown (lC10 hL) kc_Pv (gRm_ok (by decide) (by decide)) rfl rfl (Nat.le_of_ble_eq_true rfl) d_Pv_findTrustByTrust_45 ⟨Nat.le_of_ble_eq_true rfl, Nat.le_of_ble_eq_true rfl⟩ rfl ?_
                  refine V_bz 65 51 d_Pv_findTrustByTrust_48 (by decide) rfl (fun h48 => ?_) (fun h48 => ?_)
                  · refine V_ii4 68 (v := 1) d_Pv_findTrustByTrust_65 (by decide) (by decide) rfl ?_
                    refine V_goto 26 d_Pv_findTrustByTrust_68 (by decide) ?_
                    rw [nI_1]
                    exact ihd (d + 1) _ ⟨by omega, by omega⟩ (itN_s (F := fun z9 => itN (fttB) db (b + 1) (itN (fttA b) da (a + 1) (itN (fttR b a) dr (r + 1) (z9)))) hTd (if_neg h48)) _
                  · refine V_al0 52 d_Pv_findTrustByTrust_51 rfl ?_
                    refine V_iconst 53 (v := 4) (by decide) d_Pv_findTrustByTrust_52 rfl ?_
                    refine V_il5 55 d_Pv_findTrustByTrust_53 rfl ?_
                    refine V_il2 56 d_Pv_findTrustByTrust_55 rfl ?_
                    refine V_il1 57 d_Pv_findTrustByTrust_56 rfl ?_
                    refine V_il3 58 d_Pv_findTrustByTrust_57 rfl ?_
                    refine V_il4 60 d_Pv_findTrustByTrust_58 rfl ?_
                    refine V_iconst 61 (v := 1) (by decide) d_Pv_findTrustByTrust_60 rfl ?_
                    refine V_isub 62 d_Pv_findTrustByTrust_61 rfl ?_
                    refine V_topi (nI_dm h1d) ?_
                    refine V_cV0 65 (c_Pv_handOnTrust l G _ _ hL _ _ a b r (d - 1) hla hlb hlr (by omega)) ok_Pv_handOnTrust ml_Pv_139 im_Pv_handOnTrust se_Pv_handOnTrust (lC10 hL) kc_Pv (gRm_ok (by decide) (by decide)) rfl rfl (Nat.le_of_ble_eq_true rfl) d_Pv_findTrustByTrust_62 ⟨Nat.le_of_ble_eq_true rfl, Nat.le_of_ble_eq_true rfl⟩ rfl ?_
                    refine V_ii4 68 (v := 1) d_Pv_findTrustByTrust_65 (by decide) (by decide) rfl ?_
                    refine V_goto 26 d_Pv_findTrustByTrust_68 (by decide) ?_
                    rw [nI_1]
                    exact ihd (d + 1) _ ⟨by omega, by omega⟩ (itN_s (F := fun z9 => itN (fttB) db (b + 1) (itN (fttA b) da (a + 1) (itN (fttR b a) dr (r + 1) (z9)))) hTd (if_pos h48)) _
              refine V_il3 19 d_Pv_findTrustByTrust_18 rfl ?_
              refine V_iconst 20 (v := 4) (by decide) d_Pv_findTrustByTrust_19 rfl ?_
              refine V_icmp_ge 77 23 d_Pv_findTrustByTrust_20 (by decide) rfl (fun h9 => absurd h9 (nI_ge (b := 4) hlr (by decide))) (fun _ => ?_)
              refine V_iconst 24 (v := 1) (by decide) d_Pv_findTrustByTrust_23 rfl ?_
              refine V_is4 26 d_Pv_findTrustByTrust_24 (by decide) rfl ?_
              exact lpd 3 1 _ ⟨by decide, by decide⟩ hTr _
          refine V_il2 11 d_Pv_findTrustByTrust_10 rfl ?_
          refine V_bipush 13 (v := 6) (by decide) d_Pv_findTrustByTrust_11 rfl ?_
          refine V_icmp_ge 83 16 d_Pv_findTrustByTrust_13 (by decide) rfl (fun h9 => absurd h9 (nI_ge (b := 6) hla (by decide))) (fun _ => ?_)
          refine V_iconst 17 (v := 0) (by decide) d_Pv_findTrustByTrust_16 rfl ?_
          refine V_is3 18 d_Pv_findTrustByTrust_17 (by decide) rfl ?_
          exact lpr 4 0 _ (by decide) hTa _ _
      refine V_il1 3 d_Pv_findTrustByTrust_2 rfl ?_
      refine V_bipush 5 (v := 6) (by decide) d_Pv_findTrustByTrust_3 rfl ?_
      refine V_icmp_ge 89 8 d_Pv_findTrustByTrust_5 (by decide) rfl (fun h9 => absurd h9 (nI_ge (b := 6) hlb (by decide))) (fun _ => ?_)
      refine V_iconst 9 (v := 0) (by decide) d_Pv_findTrustByTrust_8 rfl ?_
      refine V_is2 10 d_Pv_findTrustByTrust_9 (by decide) rfl ?_
      exact lpa 6 0 _ (by decide) hTb _ _ _
  refine gMet_of (lv := [some (.ref 10), none, none, none, none, none]) (by decide) rfl (Nat.le_of_ble_eq_true rfl) rfl ?_
  refine V_iconst 1 (v := 0) (by decide) d_Pv_findTrustByTrust_0 rfl ?_
  refine V_is1 2 d_Pv_findTrustByTrust_1 (by decide) rfl ?_
  exact lpb 6 0 M (by decide) rfl _ _ _ _
def fvvC (b c : Nat) (M : gMe) : gMe := if pKn M (spkN c b) then hov c b M else M
def fvvB (b : Nat) (M : gMe) : gMe := itN (fvvC b) 6 0 M
def pFvv (M : gMe) : gMe := itN fvvB 6 0 M
set_option maxRecDepth 100000 in
set_option maxHeartbeats 4000000 in
theorem c_Pv_findVoiceByVoice (l : Launch) (G : gG) (L : gLy) (M : gMe) (hL : gLC L) : gMet l G y_Pv_findVoiceByVoice b_Pv_findVoiceByVoice 3 none (rmL 3 0 0) [.ref 10] L M gAll (gPo none L (pFvv M)) 0 0 := by
  have lpb : ∀ (db b : Nat) (M1 : gMe), b + db = 6 → itN (fvvB) db b M1 = pFvv M → ∀ zb0 : Option Value, V l G y_Pv_findVoiceByVoice b_Pv_findVoiceByVoice 3 none (rmL 3 0 0) 0 0 gAll (gPo none L (pFvv M)) L (M1) 0 0 [some (.ref 10), some (.int (nI b)), zb0] 2 [] := by
    intro db
    induction db with
    | zero =>
      intro b M1 hxb hTb zb0
      obtain rfl : b = 6 := by omega
      refine V_il1 3 d_Pv_findVoiceByVoice_2 rfl ?_
      refine V_bipush 5 (v := 6) (by decide) d_Pv_findVoiceByVoice_3 rfl ?_
      refine V_icmp_ge 46 8 d_Pv_findVoiceByVoice_5 (by decide) rfl (fun _ => ?_) (fun h9 => absurd (show (6 : Int32) ≤ nI 6 by decide) h9)
      exact V_vret rfl d_Pv_findVoiceByVoice_46 ⟨rfl, rfl, hTb⟩
    | succ db ihb =>
      intro b M1 hxb hTb zb0
      have hlb : b < 6 := by omega
      have lpc : ∀ (dc c : Nat) (M2 : gMe), c + dc = 6 → itN (fvvB) db (b + 1) (itN (fvvC b) dc c M2) = pFvv M → V l G y_Pv_findVoiceByVoice b_Pv_findVoiceByVoice 3 none (rmL 3 0 0) 0 0 gAll (gPo none L (pFvv M)) L (M2) 0 0 [some (.ref 10), some (.int (nI b)), some (.int (nI c))] 10 [] := by
        intro dc
        induction dc with
        | zero =>
          intro c M2 hxc hTc 
          obtain rfl : c = 6 := by omega
          refine V_il2 11 d_Pv_findVoiceByVoice_10 rfl ?_
          refine V_bipush 13 (v := 6) (by decide) d_Pv_findVoiceByVoice_11 rfl ?_
          refine V_icmp_ge 40 16 d_Pv_findVoiceByVoice_13 (by decide) rfl (fun _ => ?_) (fun h9 => absurd (show (6 : Int32) ≤ nI 6 by decide) h9)
          refine V_ii1 43 (v := 1) d_Pv_findVoiceByVoice_40 (by decide) (by decide) rfl ?_
          refine V_goto 2 d_Pv_findVoiceByVoice_43 (by decide) ?_
          rw [nI_1]
          exact ihb (b + 1) _ (by omega) hTc _
        | succ dc ihc =>
          intro c M2 hxc hTc 
          have hlc : c < 6 := by omega
          refine V_il2 11 d_Pv_findVoiceByVoice_10 rfl ?_
          refine V_bipush 13 (v := 6) (by decide) d_Pv_findVoiceByVoice_11 rfl ?_
          refine V_icmp_ge 40 16 d_Pv_findVoiceByVoice_13 (by decide) rfl (fun h9 => absurd h9 (nI_ge (b := 6) hlc (by decide))) (fun _ => ?_)
          refine V_al0 17 d_Pv_findVoiceByVoice_16 rfl ?_
          refine V_il2 18 d_Pv_findVoiceByVoice_17 rfl ?_
          refine V_il1 19 d_Pv_findVoiceByVoice_18 rfl ?_
          refine V_cS1 22 (c_Pv_speaks l G _ _ _ _) ok_Pv_speaks ml_Pv_123 st_Pv_speaks (gRm_ok (by decide) (by decide)) rfl rfl (Nat.le_of_ble_eq_true rfl) d_Pv_findVoiceByVoice_19 ⟨Nat.le_of_ble_eq_true rfl, Nat.le_of_ble_eq_true rfl⟩ rfl ?_
          refine V_topi (spk_nI c b) ?_
          refine V_cV1 25 (c_Pv_isKnown l G _ _ hL (spkN c b) (spkN_lt hlc hlb)) ok_Pv_isKnown ml_Pv_131 im_Pv_isKnown se_Pv_isKnown (lC10 hL) kc_Pv (gRm_ok (by decide) (by decide)) rfl rfl (Nat.le_of_ble_eq_true rfl) d_Pv_findVoiceByVoice_22 ⟨Nat.le_of_ble_eq_true rfl, Nat.le_of_ble_eq_true rfl⟩ rfl ?_
          refine V_bz 34 28 d_Pv_findVoiceByVoice_25 (by decide) rfl (fun h25 => ?_) (fun h25 => ?_)
          · refine V_ii2 37 (v := 1) d_Pv_findVoiceByVoice_34 (by decide) (by decide) rfl ?_
            refine V_goto 10 d_Pv_findVoiceByVoice_37 (by decide) ?_
            rw [nI_1]
            exact ihc (c + 1) _ (by omega) (itN_s (F := fun z9 => itN (fvvB) db (b + 1) (z9)) hTc (if_neg h25))
          · refine V_al0 29 d_Pv_findVoiceByVoice_28 rfl ?_
            refine V_il2 30 d_Pv_findVoiceByVoice_29 rfl ?_
            refine V_il1 31 d_Pv_findVoiceByVoice_30 rfl ?_
            refine V_cV0 34 (c_Pv_handOnVoice l G _ _ hL c b hlc hlb) ok_Pv_handOnVoice ml_Pv_148 im_Pv_handOnVoice se_Pv_handOnVoice (lC10 hL) kc_Pv (gRm_ok (by decide) (by decide)) rfl rfl (Nat.le_of_ble_eq_true rfl) d_Pv_findVoiceByVoice_31 ⟨Nat.le_of_ble_eq_true rfl, Nat.le_of_ble_eq_true rfl⟩ rfl ?_
            refine V_ii2 37 (v := 1) d_Pv_findVoiceByVoice_34 (by decide) (by decide) rfl ?_
            refine V_goto 10 d_Pv_findVoiceByVoice_37 (by decide) ?_
            rw [nI_1]
            exact ihc (c + 1) _ (by omega) (itN_s (F := fun z9 => itN (fvvB) db (b + 1) (z9)) hTc (if_pos h25))
      refine V_il1 3 d_Pv_findVoiceByVoice_2 rfl ?_
      refine V_bipush 5 (v := 6) (by decide) d_Pv_findVoiceByVoice_3 rfl ?_
      refine V_icmp_ge 46 8 d_Pv_findVoiceByVoice_5 (by decide) rfl (fun h9 => absurd h9 (nI_ge (b := 6) hlb (by decide))) (fun _ => ?_)
      refine V_iconst 9 (v := 0) (by decide) d_Pv_findVoiceByVoice_8 rfl ?_
      refine V_is2 10 d_Pv_findVoiceByVoice_9 (by decide) rfl ?_
      exact lpc 6 0 _ (by decide) hTb
  refine gMet_of (lv := [some (.ref 10), none, none]) (by decide) rfl (Nat.le_of_ble_eq_true rfl) rfl ?_
  refine V_iconst 1 (v := 0) (by decide) d_Pv_findVoiceByVoice_0 rfl ?_
  refine V_is1 2 d_Pv_findVoiceByVoice_1 (by decide) rfl ?_
  exact lpb 6 0 M (by decide) rfl _
end
section
/-! the list of credentials, and the credentials; facts are copied -/
section gCast
variable {l : Launch} {G : gG} {y : MethodName} {cc : ByteArray} {nL : Nat} {ret : Option FieldType} {R : Room} {mc ms : Nat} {Z : Nat → Prop} {post : Option Value → gLy → gMe → Prop} {L : gLy} {M : gMe} {cells slots : Nat} {lv : List (Option Value)} {pc : Nat} {st : List Value}
theorem V_cast (q : Nat) {a ci N index : Nat} {C nm : String} {T : u_T} {ty : Nat → FieldType} {fs : List (Option Value)} (hL : L a = some (.inr (ci, fs))) (hc : gCl ci C T N ty) (hl : Cond.classLink y.cls index nm ∈ TB) (hca : Cond.castable C nm ∈ NB) (d : decode cc pc = .ok (.checkcast index, 3)) (hq : pc + 3 = q)
    (kk : V l G y cc nL ret R mc ms Z post L M cells slots lv q (.ref a :: st)) : V l G y cc nL ret R mc ms Z post L M cells slots lv pc (.ref a :: st) := by
  subst hq
  intro p e s m args below meth c r0 r H locs ls hC hZ hW hR hlo hls
  exact va_castY hC.1 hC.2.1 hC.2.2.2.2.1 (hW.t hl) (hW.2.1 _ hca) (va_recv hW.2.2.1 (gP1 (hR.1 a _ hL).1) hc.1 (q0 := 0) rfl) d (kk p e s m args below meth c r0 r H locs ls hC hZ hW hR hlo hls)
end gCast
theorem ca_Cr : Cond.castable "ProofGate$Credential" "ProofGate$Credential" ∈ NB := nb5 181 rfl rfl
theorem ca_CrO : Cond.castable "ProofGate$Credential" "java/lang/Object" ∈ NB := nb5 194 rfl rfl
theorem sf_AL_modCount : Cond.sameField "java/util/ArrayList" "java/util/AbstractList" "modCount" "I" ∈ TB := tb1 59 rfl rfl
/-- the place of the n-th credential -/
def cP (n : Nat) : Nat := 200 + 2 * n
def lsF (c : Nat) : Nat → Option Nat := fun i => if i < c then some (cP (i + 1)) else none
/-- the list holds c credentials -/
def gLH (L : gLy) (c : Nat) : Prop := ∃ e cap : Nat, L 5 = some (.inr (0, [some (.ref e), none, none])) ∧ (0 < c → L e = some (.inl (4, cap, some (some (lsF c)))) ∧ c ≤ cap ∧ cap < 100) ∧ ∀ n, 1 ≤ n → n ≤ c → gLR L (cP n) (cP n + 1)
set_option maxRecDepth 100000 in
set_option maxHeartbeats 4000000 in
theorem c_AL_size (l : Launch) (G : gG) (L : gLy) (M : gMe) (c : Nat) (hH : gLH L c) : gMet l G y_AL_size b_AL_size 1 (some FieldType.int) (rmL 1 0 0) [.ref 5] L M gAll (gPo (some (.int (M 5 1))) L M) 0 0 := by
  obtain ⟨e, cap, h5, hE, hRc⟩ := hH
  refine gMet_of (lv := [some (.ref 5)]) (by decide) rfl (Nat.le_of_ble_eq_true rfl) rfl ?_
  refine V_al0 1 d_AL_size_0 rfl ?_
  refine V_geti 4 1 h5 kc_AL (by decide) fl_AL_48 (Or.inl rfl) rfl d_AL_size_1 rfl ?_
  exact V_iret rfl d_AL_size_4 ⟨rfl, rfl, rfl⟩
set_option maxRecDepth 100000 in
set_option maxHeartbeats 4000000 in
theorem c_Pr_checkIndex (l : Launch) (G : gG) (L : gLy) (M : gMe) (i n : Nat) (hi : i < n) (hn : n < 1000) : gMet l G y_Pr_checkIndex b_Pr_checkIndex 3 (some FieldType.int) (rmL 1 0 0) [.int (nI i), .int (nI n), .null] L M gAll (gPo (some (.int (nI i))) L M) 0 0 := by
  refine gMet_of (lv := [some (.int (nI i)), some (.int (nI n)), some (.null)]) (by decide) rfl (Nat.le_of_ble_eq_true rfl) rfl ?_
  refine V_il0 1 d_Pr_checkIndex_0 rfl ?_
  refine V_if_lt 9 4 d_Pr_checkIndex_1 (by decide) rfl (fun h9 => absurd h9 (nI_pos (by omega))) (fun _ => ?_)
  refine V_il0 5 d_Pr_checkIndex_4 rfl ?_
  refine V_il1 6 d_Pr_checkIndex_5 rfl ?_
  refine V_icmp_lt 16 9 d_Pr_checkIndex_6 (by decide) rfl (fun _ => ?_) (fun h9 => absurd (nI_lt hi (by omega)) h9)
  refine V_il0 17 d_Pr_checkIndex_16 rfl ?_
  exact V_iret rfl d_Pr_checkIndex_17 ⟨rfl, rfl, rfl⟩
set_option maxRecDepth 100000 in
set_option maxHeartbeats 4000000 in
theorem c_Ob_checkIndex (l : Launch) (G : gG) (L : gLy) (M : gMe) (i n : Nat) (hi : i < n) (hn : n < 1000) : gMet l G y_Ob_checkIndex b_Ob_checkIndex 2 (some FieldType.int) (rmL 2 0 0) [.int (nI i), .int (nI n)] L M gAll (gPo (some (.int (nI i))) L M) 0 0 := by
  refine gMet_of (lv := [some (.int (nI i)), some (.int (nI n))]) (by decide) rfl (Nat.le_of_ble_eq_true rfl) rfl ?_
  refine V_il0 1 d_Ob_checkIndex_0 rfl ?_
  refine V_il1 2 d_Ob_checkIndex_1 rfl ?_
  refine V_null 3 d_Ob_checkIndex_2 rfl ?_
  refine V_cS1 6 (c_Pr_checkIndex l G _ _ i n hi hn) ok_Pr_checkIndex ml_Ob_105 st_Pr_checkIndex (gRm_ok (by decide) (by decide)) rfl rfl (Nat.le_of_ble_eq_true rfl) d_Ob_checkIndex_3 ⟨Nat.le_of_ble_eq_true rfl, Nat.le_of_ble_eq_true rfl⟩ rfl ?_
  exact V_iret rfl d_Ob_checkIndex_6 ⟨rfl, rfl, rfl⟩
set_option maxRecDepth 100000 in
set_option maxHeartbeats 4000000 in
theorem c_AL_elementData (l : Launch) (G : gG) (L : gLy) (M : gMe) (c : Nat) (hH : gLH L c) (i : Nat) (hi : i < c) : gMet l G y_AL_elementData b_AL_elementData 2 (some (FieldType.object "java/lang/Object")) (rmL 1 0 0) [.ref 5, .int (nI i)] L M gAll (gPo (some (.ref (cP (i + 1)))) L M) 0 0 := by
  obtain ⟨e, cap, h5, hE, hRc⟩ := hH
  have hcap : cap < 2 ^ 31 := by have := (hE (by omega)).2.2; omega
  refine gMet_of (lv := [some (.ref 5), some (.int (nI i))]) (by decide) rfl (Nat.le_of_ble_eq_true rfl) rfl ?_
  refine V_al0 1 d_AL_elementData_0 rfl ?_
  refine V_getr 4 0 h5 kc_AL (by decide) fl_AL_9 (Or.inl rfl) rfl d_AL_elementData_1 rfl ?_
  refine V_il1 5 d_AL_elementData_4 rfl ?_
  refine V_aaln 6 (i) (cP (i + 1)) "java/lang/Object" (hE (by omega)).1 rfl rfl (by have := (hE (by omega)).2.1; omega) hcap (if_pos hi) d_AL_elementData_5 rfl ?_
  exact V_aret rfl (Or.inl ⟨_, rfl⟩) (Or.inr ⟨_, rfl⟩) d_AL_elementData_6 ⟨rfl, rfl, rfl⟩
set_option maxRecDepth 100000 in
set_option maxHeartbeats 4000000 in
theorem c_AL_get (l : Launch) (G : gG) (L : gLy) (M : gMe) (c : Nat) (hH : gLH L c) (hs : M 5 1 = nI c) (hc : c < 100) (i : Nat) (hi : i < c) : gMet l G y_AL_get b_AL_get 2 (some (FieldType.object "java/lang/Object")) (rmL 3 0 0) [.ref 5, .int (nI i)] L M gAll (gPo (some (.ref (cP (i + 1)))) L M) 0 0 := by
  have hH9 := hH
  obtain ⟨e, cap, h5, hE, hRc⟩ := hH
  have hH := hH9
  refine gMet_of (lv := [some (.ref 5), some (.int (nI i))]) (by decide) rfl (Nat.le_of_ble_eq_true rfl) rfl ?_
  refine V_il1 1 d_AL_get_0 rfl ?_
  refine V_al0 2 d_AL_get_1 rfl ?_
  refine V_geti 5 1 h5 kc_AL (by decide) fl_AL_48 (Or.inl rfl) rfl d_AL_get_2 rfl ?_
  refine V_topi hs ?_
  refine V_cS1 8 (c_Ob_checkIndex l G _ _ i c hi (by omega)) ok_Ob_checkIndex ml_AL_118 st_Ob_checkIndex (gRm_ok (by decide) (by decide)) rfl rfl (Nat.le_of_ble_eq_true rfl) d_AL_get_5 ⟨Nat.le_of_ble_eq_true rfl, Nat.le_of_ble_eq_true rfl⟩ rfl ?_
  refine V_pop 9 rfl d_AL_get_8 rfl ?_
  refine V_al0 10 d_AL_get_9 rfl ?_
  refine V_il1 11 d_AL_get_10 rfl ?_
  refine V_cV1 14 (c_AL_elementData l G _ _ c hH i hi) ok_AL_elementData ml_AL_123 im_AL_elementData se_AL_elementData h5 kc_AL (gRm_ok (by decide) (by decide)) rfl rfl (Nat.le_of_ble_eq_true rfl) d_AL_get_11 ⟨Nat.le_of_ble_eq_true rfl, Nat.le_of_ble_eq_true rfl⟩ rfl ?_
  exact V_aret rfl (Or.inl ⟨_, rfl⟩) (Or.inr ⟨_, rfl⟩) d_AL_get_14 ⟨rfl, rfl, rfl⟩
set_option maxRecDepth 100000 in
set_option maxHeartbeats 4000000 in
theorem c_Cs_count (l : Launch) (G : gG) (L : gLy) (M : gMe) (hL : gLC L) (c : Nat) (hH : gLH L c) : gMet l G y_Cs_count b_Cs_count 1 (some FieldType.int) (rmL 2 0 0) [.ref 4] L M gAll (gPo (some (.int (M 5 1))) L M) 0 0 := by
  have hH9 := hH
  obtain ⟨e, cap, h5, hE, hRc⟩ := hH
  have hH := hH9
  refine gMet_of (lv := [some (.ref 4)]) (by decide) rfl (Nat.le_of_ble_eq_true rfl) rfl ?_
  refine V_al0 1 d_Cs_count_0 rfl ?_
  refine V_getr 4 0 (lC4 hL) kc_Cs (by decide) fl_Cs_10 (Or.inl rfl) rfl d_Cs_count_1 rfl ?_
  refine V_cV1 7 (c_AL_size l G _ _ c hH) ok_AL_size ml_Cs_16 im_AL_size se_AL_size h5 kc_AL (gRm_ok (by decide) (by decide)) rfl rfl (Nat.le_of_ble_eq_true rfl) d_Cs_count_4 ⟨Nat.le_of_ble_eq_true rfl, Nat.le_of_ble_eq_true rfl⟩ rfl ?_
  exact V_iret rfl d_Cs_count_7 ⟨rfl, rfl, rfl⟩
set_option maxRecDepth 100000 in
set_option maxHeartbeats 4000000 in
theorem c_Cs_letTimeGoOn (l : Launch) (G : gG) (L : gLy) (M : gMe) (hL : gLC L) (n : Int32) : gMet l G y_Cs_letTimeGoOn b_Cs_letTimeGoOn 2 (some FieldType.int) (rmL 1 0 0) [.ref 4, .int n] L M gAll (gPo (some (.int (M 4 1 + n))) L (gst M 4 1 (M 4 1 + n))) 0 0 := by
  refine gMet_of (lv := [some (.ref 4), some (.int n)]) (by decide) rfl (Nat.le_of_ble_eq_true rfl) rfl ?_
  refine V_al0 1 d_Cs_letTimeGoOn_0 rfl ?_
  refine V_dup 2 rfl d_Cs_letTimeGoOn_1 rfl ?_
  refine V_geti 5 1 (lC4 hL) kc_Cs (by decide) fl_Cs_24 (Or.inl rfl) rfl d_Cs_letTimeGoOn_2 rfl ?_
  refine V_il1 6 d_Cs_letTimeGoOn_5 rfl ?_
  refine V_iadd 7 d_Cs_letTimeGoOn_6 rfl ?_
  refine V_puti 10 1 (lC4 hL) kc_Cs (by decide) fl_Cs_24 (Or.inl rfl) rfl rfl rfl rfl d_Cs_letTimeGoOn_7 rfl ?_
  refine V_al0 11 d_Cs_letTimeGoOn_10 rfl ?_
  refine V_geti 14 1 (lC4 hL) kc_Cs (by decide) fl_Cs_24 (Or.inl rfl) rfl d_Cs_letTimeGoOn_11 rfl ?_
  exact V_iret rfl d_Cs_letTimeGoOn_14 ⟨by rw [gst_same]; simp [upd], rfl, rfl⟩
set_option maxRecDepth 100000 in
set_option maxHeartbeats 4000000 in
theorem c_Cs_find (l : Launch) (G : gG) (L : gLy) (M : gMe) (hL : gLC L) (c : Nat) (hH : gLH L c) (hs : M 5 1 = nI c) (hc : c < 100) (n : Nat) (h1 : 1 ≤ n) (hn : n ≤ c) : gMet l G y_Cs_find b_Cs_find 2 (some (FieldType.object "ProofGate$Credential")) (rmL 4 0 0) [.ref 4, .int (nI n)] L M gAll (gPo (some (.ref (cP n))) L M) 0 0 := by
  have hH9 := hH
  obtain ⟨e, cap, h5, hE, hRc⟩ := hH
  have hH := hH9
  refine gMet_of (lv := [some (.ref 4), some (.int (nI n))]) (by decide) rfl (Nat.le_of_ble_eq_true rfl) rfl ?_
  refine V_il1 1 d_Cs_find_0 rfl ?_
  refine V_iconst 2 (v := 1) (by decide) d_Cs_find_1 rfl ?_
  refine V_icmp_lt 32 5 d_Cs_find_2 (by decide) rfl (fun h9 => absurd h9 (nI_nlt (b := 1) h1 (by omega))) (fun _ => ?_)
  refine V_il1 6 d_Cs_find_5 rfl ?_
  refine V_al0 7 d_Cs_find_6 rfl ?_
  refine V_getr 10 0 (lC4 hL) kc_Cs (by decide) fl_Cs_10 (Or.inl rfl) rfl d_Cs_find_7 rfl ?_
  refine V_cV1 13 (c_AL_size l G _ _ c hH) ok_AL_size ml_Cs_16 im_AL_size se_AL_size h5 kc_AL (gRm_ok (by decide) (by decide)) rfl rfl (Nat.le_of_ble_eq_true rfl) d_Cs_find_10 ⟨Nat.le_of_ble_eq_true rfl, Nat.le_of_ble_eq_true rfl⟩ rfl ?_
  refine V_icmp_gt 32 16 d_Cs_find_13 (by decide) rfl (fun h9 => absurd h9 (by rw [hs]; exact nI_nlt hn (by omega))) (fun _ => ?_)
  refine V_al0 17 d_Cs_find_16 rfl ?_
  refine V_getr 20 0 (lC4 hL) kc_Cs (by decide) fl_Cs_10 (Or.inl rfl) rfl d_Cs_find_17 rfl ?_
  refine V_il1 21 d_Cs_find_20 rfl ?_
  refine V_iconst 22 (v := 1) (by decide) d_Cs_find_21 rfl ?_
  refine V_isub 23 d_Cs_find_22 rfl ?_
  refine V_topi (nI_dm h1) ?_
  refine V_cV1 26 (c_AL_get l G _ _ c hH hs hc (n - 1) (by omega)) ok_AL_get ml_Cs_28 im_AL_get se_AL_get h5 kc_AL (gRm_ok (by decide) (by decide)) rfl rfl (Nat.le_of_ble_eq_true rfl) d_Cs_find_23 ⟨Nat.le_of_ble_eq_true rfl, Nat.le_of_ble_eq_true rfl⟩ rfl ?_
  refine V_top (w := .ref (cP n)) (by rw [show n - 1 + 1 = n by omega]) ?_
  refine V_cast 29 (hRc n h1 hn).1 kc_Cr cl_Cs_32 ca_Cr d_Cs_find_26 rfl ?_
  refine V_goto 33 d_Cs_find_29 (by decide) ?_
  exact V_aret rfl (Or.inl ⟨_, rfl⟩) (Or.inr ⟨_, rfl⟩) d_Cs_find_33 ⟨rfl, rfl, rfl⟩
set_option maxRecDepth 100000 in
set_option maxHeartbeats 4000000 in
theorem c_Cs_find_none (l : Launch) (G : gG) (L : gLy) (M : gMe) (hL : gLC L) (c : Nat) (hH : gLH L c) (hs : M 5 1 = nI c) (x : Int32) (hx : x < 1 ∨ nI c < x) : gMet l G y_Cs_find b_Cs_find 2 (some (FieldType.object "ProofGate$Credential")) (rmL 4 0 0) [.ref 4, .int x] L M gAll (gPo (some .null) L M) 0 0 := by
  have hH9 := hH
  obtain ⟨e, cap, h5, hE, hRc⟩ := hH
  have hH := hH9
  refine gMet_of (lv := [some (.ref 4), some (.int x)]) (by decide) rfl (Nat.le_of_ble_eq_true rfl) rfl ?_
  refine V_il1 1 d_Cs_find_0 rfl ?_
  refine V_iconst 2 (v := 1) (by decide) d_Cs_find_1 rfl ?_
  refine V_icmp_lt 32 5 d_Cs_find_2 (by decide) rfl (fun h2 => ?_) (fun h2 => ?_)
  · refine V_null 33 d_Cs_find_32 rfl ?_
    exact V_aret rfl (Or.inl ⟨_, rfl⟩) (Or.inl rfl) d_Cs_find_33 ⟨rfl, rfl, rfl⟩
  · refine V_il1 6 d_Cs_find_5 rfl ?_
    refine V_al0 7 d_Cs_find_6 rfl ?_
    refine V_getr 10 0 (lC4 hL) kc_Cs (by decide) fl_Cs_10 (Or.inl rfl) rfl d_Cs_find_7 rfl ?_
    refine V_cV1 13 (c_AL_size l G _ _ c hH) ok_AL_size ml_Cs_16 im_AL_size se_AL_size h5 kc_AL (gRm_ok (by decide) (by decide)) rfl rfl (Nat.le_of_ble_eq_true rfl) d_Cs_find_10 ⟨Nat.le_of_ble_eq_true rfl, Nat.le_of_ble_eq_true rfl⟩ rfl ?_
    refine V_icmp_gt 32 16 d_Cs_find_13 (by decide) rfl (fun _ => ?_) (fun h9 => absurd (by rw [hs]; exact hx.resolve_left h2) h9)
    refine V_null 33 d_Cs_find_32 rfl ?_
    exact V_aret rfl (Or.inl ⟨_, rfl⟩) (Or.inl rfl) d_Cs_find_33 ⟨rfl, rfl, rfl⟩
set_option maxRecDepth 100000 in
set_option maxHeartbeats 4000000 in
theorem c_Cs_findValid (l : Launch) (G : gG) (L : gLy) (M : gMe) (hL : gLC L) (c : Nat) (hH : gLH L c) (hs : M 5 1 = nI c) (hc : c < 100) (n : Nat) (h1 : 1 ≤ n) (hn : n ≤ c) (hv : pVal M (cP n) (M 4 1)) : gMet l G y_Cs_findValid b_Cs_findValid 3 (some (FieldType.object "ProofGate$Credential")) (rmL 5 0 0) [.ref 4, .int (nI n)] L M gAll (gPo (some (.ref (cP n))) L M) 0 0 := by
  have hH9 := hH
  obtain ⟨e, cap, h5, hE, hRc⟩ := hH
  have hH := hH9
  refine gMet_of (lv := [some (.ref 4), some (.int (nI n)), none]) (by decide) rfl (Nat.le_of_ble_eq_true rfl) rfl ?_
  refine V_al0 1 d_Cs_findValid_0 rfl ?_
  refine V_il1 2 d_Cs_findValid_1 rfl ?_
  refine V_cV1 5 (c_Cs_find l G _ _ hL c hH hs hc n h1 hn) ok_Cs_find ml_Cs_34 im_Cs_find se_Cs_find (lC4 hL) kc_Cs (gRm_ok (by decide) (by decide)) rfl rfl (Nat.le_of_ble_eq_true rfl) d_Cs_findValid_2 ⟨Nat.le_of_ble_eq_true rfl, Nat.le_of_ble_eq_true rfl⟩ rfl ?_
  refine V_as2 6 d_Cs_findValid_5 (by decide) rfl ?_
  refine V_al2 7 d_Cs_findValid_6 rfl ?_
  refine V_nul 10 d_Cs_findValid_7 rfl ?_
  refine V_al2 11 d_Cs_findValid_10 rfl ?_
  refine V_al0 12 d_Cs_findValid_11 rfl ?_
  refine V_geti 15 1 (lC4 hL) kc_Cs (by decide) fl_Cs_24 (Or.inl rfl) rfl d_Cs_findValid_12 rfl ?_
  refine V_cV1 18 (c_Cr_isValidAt l G _ _ (cP n) (cP n + 1) (hRc n h1 hn) (M 4 1)) ok_Cr_isValidAt ml_Cs_38 im_Cr_isValidAt se_Cr_isValidAt (hRc n h1 hn).1 kc_Cr (gRm_ok (by decide) (by decide)) rfl rfl (Nat.le_of_ble_eq_true rfl) d_Cs_findValid_15 ⟨Nat.le_of_ble_eq_true rfl, Nat.le_of_ble_eq_true rfl⟩ rfl ?_
  refine V_bz 25 21 d_Cs_findValid_18 (by decide) rfl (fun h9 => absurd hv h9) (fun _ => ?_)
  refine V_al2 22 d_Cs_findValid_21 rfl ?_
  refine V_goto 26 d_Cs_findValid_22 (by decide) ?_
  exact V_aret rfl (Or.inl ⟨_, rfl⟩) (Or.inr ⟨_, rfl⟩) d_Cs_findValid_26 ⟨rfl, rfl, rfl⟩
set_option maxRecDepth 100000 in
set_option maxHeartbeats 4000000 in
theorem c_Cs_findValid_inv (l : Launch) (G : gG) (L : gLy) (M : gMe) (hL : gLC L) (c : Nat) (hH : gLH L c) (hs : M 5 1 = nI c) (hc : c < 100) (n : Nat) (h1 : 1 ≤ n) (hn : n ≤ c) (hv : ¬ pVal M (cP n) (M 4 1)) : gMet l G y_Cs_findValid b_Cs_findValid 3 (some (FieldType.object "ProofGate$Credential")) (rmL 5 0 0) [.ref 4, .int (nI n)] L M gAll (gPo (some (.null)) L M) 0 0 := by
  have hH9 := hH
  obtain ⟨e, cap, h5, hE, hRc⟩ := hH
  have hH := hH9
  refine gMet_of (lv := [some (.ref 4), some (.int (nI n)), none]) (by decide) rfl (Nat.le_of_ble_eq_true rfl) rfl ?_
  refine V_al0 1 d_Cs_findValid_0 rfl ?_
  refine V_il1 2 d_Cs_findValid_1 rfl ?_
  refine V_cV1 5 (c_Cs_find l G _ _ hL c hH hs hc n h1 hn) ok_Cs_find ml_Cs_34 im_Cs_find se_Cs_find (lC4 hL) kc_Cs (gRm_ok (by decide) (by decide)) rfl rfl (Nat.le_of_ble_eq_true rfl) d_Cs_findValid_2 ⟨Nat.le_of_ble_eq_true rfl, Nat.le_of_ble_eq_true rfl⟩ rfl ?_
  refine V_as2 6 d_Cs_findValid_5 (by decide) rfl ?_
  refine V_al2 7 d_Cs_findValid_6 rfl ?_
  refine V_nul 10 d_Cs_findValid_7 rfl ?_
  refine V_al2 11 d_Cs_findValid_10 rfl ?_
  refine V_al0 12 d_Cs_findValid_11 rfl ?_
  refine V_geti 15 1 (lC4 hL) kc_Cs (by decide) fl_Cs_24 (Or.inl rfl) rfl d_Cs_findValid_12 rfl ?_
  refine V_cV1 18 (c_Cr_isValidAt l G _ _ (cP n) (cP n + 1) (hRc n h1 hn) (M 4 1)) ok_Cr_isValidAt ml_Cs_38 im_Cr_isValidAt se_Cr_isValidAt (hRc n h1 hn).1 kc_Cr (gRm_ok (by decide) (by decide)) rfl rfl (Nat.le_of_ble_eq_true rfl) d_Cs_findValid_15 ⟨Nat.le_of_ble_eq_true rfl, Nat.le_of_ble_eq_true rfl⟩ rfl ?_
  refine V_bz 25 21 d_Cs_findValid_18 (by decide) rfl (fun _ => ?_) (fun h9 => absurd h9 hv)
  refine V_null 26 d_Cs_findValid_25 rfl ?_
  exact V_aret rfl (Or.inl ⟨_, rfl⟩) (Or.inl rfl) d_Cs_findValid_26 ⟨rfl, rfl, rfl⟩
set_option maxRecDepth 100000 in
set_option maxHeartbeats 4000000 in
theorem c_Cs_findValid_none (l : Launch) (G : gG) (L : gLy) (M : gMe) (hL : gLC L) (c : Nat) (hH : gLH L c) (hs : M 5 1 = nI c) (x : Int32) (hx : x < 1 ∨ nI c < x) : gMet l G y_Cs_findValid b_Cs_findValid 3 (some (FieldType.object "ProofGate$Credential")) (rmL 5 0 0) [.ref 4, .int x] L M gAll (gPo (some .null) L M) 0 0 := by
  have hH9 := hH
  obtain ⟨e, cap, h5, hE, hRc⟩ := hH
  have hH := hH9
  refine gMet_of (lv := [some (.ref 4), some (.int x), none]) (by decide) rfl (Nat.le_of_ble_eq_true rfl) rfl ?_
  refine V_al0 1 d_Cs_findValid_0 rfl ?_
  refine V_il1 2 d_Cs_findValid_1 rfl ?_
  refine V_cV1 5 (c_Cs_find_none l G _ _ hL c hH hs x hx) ok_Cs_find ml_Cs_34 im_Cs_find se_Cs_find (lC4 hL) kc_Cs (gRm_ok (by decide) (by decide)) rfl rfl (Nat.le_of_ble_eq_true rfl) d_Cs_findValid_2 ⟨Nat.le_of_ble_eq_true rfl, Nat.le_of_ble_eq_true rfl⟩ rfl ?_
  refine V_az2 6 d_Cs_findValid_5 (by decide) rfl ?_
  refine V_an2 7 d_Cs_findValid_6 rfl ?_
  refine V_nulN 25 d_Cs_findValid_7 (by decide) ?_
  refine V_null 26 d_Cs_findValid_25 rfl ?_
  exact V_aret rfl (Or.inl ⟨_, rfl⟩) (Or.inl rfl) d_Cs_findValid_26 ⟨rfl, rfl, rfl⟩
def faB (M : gMe) (b b2 : Nat) : Nat → gMe
  | 0 => M
  | k + 1 => gst (faB M b b2 k) b k (faB M b b2 k b2 k)
set_option maxRecDepth 100000 in
set_option maxHeartbeats 4000000 in
theorem c_Fa_become (l : Launch) (G : gG) (L : gLy) (M : gMe) (b b2 : Nat) (hF : gLF L b) (hF2 : gLF L b2) : gMet l G y_Fa_become b_Fa_become 2 none (rmL 1 0 0) [.ref b, .ref b2] L M gAll (gPo none L (faB M b b2 6)) 0 0 := by
  refine gMet_of (lv := [some (.ref b), some (.ref b2)]) (by decide) rfl (Nat.le_of_ble_eq_true rfl) rfl ?_
  refine V_al0 1 d_Fa_become_0 rfl ?_
  refine V_al1 2 d_Fa_become_1 rfl ?_
  refine V_geti 5 0 hF2 kc_Fa (by decide) fl_Fa_15 (Or.inl rfl) rfl d_Fa_become_2 rfl ?_
  refine V_puti 8 0 hF kc_Fa (by decide) fl_Fa_15 (Or.inl rfl) rfl rfl rfl rfl d_Fa_become_5 rfl ?_
  refine V_al0 9 d_Fa_become_8 rfl ?_
  refine V_al1 10 d_Fa_become_9 rfl ?_
  refine V_geti 13 1 hF2 kc_Fa (by decide) fl_Fa_21 (Or.inl rfl) rfl d_Fa_become_10 rfl ?_
  refine V_puti 16 1 hF kc_Fa (by decide) fl_Fa_21 (Or.inl rfl) rfl rfl rfl rfl d_Fa_become_13 rfl ?_
  refine V_al0 17 d_Fa_become_16 rfl ?_
  refine V_al1 18 d_Fa_become_17 rfl ?_
  refine V_geti 21 2 hF2 kc_Fa (by decide) fl_Fa_28 (Or.inl rfl) rfl d_Fa_become_18 rfl ?_
  refine V_puti 24 2 hF kc_Fa (by decide) fl_Fa_28 (Or.inl rfl) rfl rfl rfl rfl d_Fa_become_21 rfl ?_
  refine V_al0 25 d_Fa_become_24 rfl ?_
  refine V_al1 26 d_Fa_become_25 rfl ?_
  refine V_geti 29 3 hF2 kc_Fa (by decide) fl_Fa_31 (Or.inl rfl) rfl d_Fa_become_26 rfl ?_
  refine V_puti 32 3 hF kc_Fa (by decide) fl_Fa_31 (Or.inl rfl) rfl rfl rfl rfl d_Fa_become_29 rfl ?_
  refine V_al0 33 d_Fa_become_32 rfl ?_
  refine V_al1 34 d_Fa_become_33 rfl ?_
  refine V_geti 37 4 hF2 kc_Fa (by decide) fl_Fa_34 (Or.inl rfl) rfl d_Fa_become_34 rfl ?_
  refine V_puti 40 4 hF kc_Fa (by decide) fl_Fa_34 (Or.inl rfl) rfl rfl rfl rfl d_Fa_become_37 rfl ?_
  refine V_al0 41 d_Fa_become_40 rfl ?_
  refine V_al1 42 d_Fa_become_41 rfl ?_
  refine V_geti 45 5 hF2 kc_Fa (by decide) fl_Fa_37 (Or.inl rfl) rfl d_Fa_become_42 rfl ?_
  refine V_puti 48 5 hF kc_Fa (by decide) fl_Fa_37 (Or.inl rfl) rfl rfl rfl rfl d_Fa_become_45 rfl ?_
  exact V_vret rfl d_Fa_become_48 ⟨rfl, rfl, rfl⟩
def faS (M : gMe) (b c n : Nat) : gMe :=
  let M1 := gst M b 0 (M c 1)
  let M2 := gst M1 b 1 (M1 c 0)
  let M3 := gst M2 b 2 (M2 n 0)
  let M4 := gst M3 b 3 (M3 n 1)
  let M5 := gst M4 b 4 (M4 n 2)
  gst M5 b 5 (M5 n 3)
set_option maxRecDepth 100000 in
set_option maxHeartbeats 4000000 in
theorem c_Fa_becomeSaidBy (l : Launch) (G : gG) (L : gLy) (M : gMe) (b c n : Nat) (hF : gLF L b) (hR : gLR L c n) : gMet l G y_Fa_becomeSaidBy b_Fa_becomeSaidBy 2 none (rmL 1 0 0) [.ref b, .ref c] L M gAll (gPo none L (faS M b c n)) 0 0 := by
  refine gMet_of (lv := [some (.ref b), some (.ref c)]) (by decide) rfl (Nat.le_of_ble_eq_true rfl) rfl ?_
  refine V_al0 1 d_Fa_becomeSaidBy_0 rfl ?_
  refine V_al1 2 d_Fa_becomeSaidBy_1 rfl ?_
  refine V_geti 5 1 hR.1 kc_Cr (by decide) fl_Fa_9 (Or.inl rfl) rfl d_Fa_becomeSaidBy_2 rfl ?_
  refine V_puti 8 0 hF kc_Fa (by decide) fl_Fa_15 (Or.inl rfl) rfl rfl rfl rfl d_Fa_becomeSaidBy_5 rfl ?_
  refine V_al0 9 d_Fa_becomeSaidBy_8 rfl ?_
  refine V_al1 10 d_Fa_becomeSaidBy_9 rfl ?_
  refine V_geti 13 0 hR.1 kc_Cr (by decide) fl_Fa_18 (Or.inl rfl) rfl d_Fa_becomeSaidBy_10 rfl ?_
  refine V_puti 16 1 hF kc_Fa (by decide) fl_Fa_21 (Or.inl rfl) rfl rfl rfl rfl d_Fa_becomeSaidBy_13 rfl ?_
  refine V_al0 17 d_Fa_becomeSaidBy_16 rfl ?_
  refine V_al1 18 d_Fa_becomeSaidBy_17 rfl ?_
  refine V_getr 21 2 hR.1 kc_Cr (by decide) fl_Fa_24 (Or.inl rfl) rfl d_Fa_becomeSaidBy_18 rfl ?_
  refine V_iconst 22 (v := 0) (by decide) d_Fa_becomeSaidBy_21 rfl ?_
  refine V_ialn 23 (0) hR.2 rfl (by decide) (by decide) d_Fa_becomeSaidBy_22 rfl ?_
  refine V_puti 26 2 hF kc_Fa (by decide) fl_Fa_28 (Or.inl rfl) rfl rfl rfl rfl d_Fa_becomeSaidBy_23 rfl ?_
  refine V_al0 27 d_Fa_becomeSaidBy_26 rfl ?_
  refine V_al1 28 d_Fa_becomeSaidBy_27 rfl ?_
  refine V_getr 31 2 hR.1 kc_Cr (by decide) fl_Fa_24 (Or.inl rfl) rfl d_Fa_becomeSaidBy_28 rfl ?_
  refine V_iconst 32 (v := 1) (by decide) d_Fa_becomeSaidBy_31 rfl ?_
  refine V_ialn 33 (1) hR.2 rfl (by decide) (by decide) d_Fa_becomeSaidBy_32 rfl ?_
  refine V_puti 36 3 hF kc_Fa (by decide) fl_Fa_31 (Or.inl rfl) rfl rfl rfl rfl d_Fa_becomeSaidBy_33 rfl ?_
  refine V_al0 37 d_Fa_becomeSaidBy_36 rfl ?_
  refine V_al1 38 d_Fa_becomeSaidBy_37 rfl ?_
  refine V_getr 41 2 hR.1 kc_Cr (by decide) fl_Fa_24 (Or.inl rfl) rfl d_Fa_becomeSaidBy_38 rfl ?_
  refine V_iconst 42 (v := 2) (by decide) d_Fa_becomeSaidBy_41 rfl ?_
  refine V_ialn 43 (2) hR.2 rfl (by decide) (by decide) d_Fa_becomeSaidBy_42 rfl ?_
  refine V_puti 46 4 hF kc_Fa (by decide) fl_Fa_34 (Or.inl rfl) rfl rfl rfl rfl d_Fa_becomeSaidBy_43 rfl ?_
  refine V_al0 47 d_Fa_becomeSaidBy_46 rfl ?_
  refine V_al1 48 d_Fa_becomeSaidBy_47 rfl ?_
  refine V_getr 51 2 hR.1 kc_Cr (by decide) fl_Fa_24 (Or.inl rfl) rfl d_Fa_becomeSaidBy_48 rfl ?_
  refine V_iconst 52 (v := 3) (by decide) d_Fa_becomeSaidBy_51 rfl ?_
  refine V_ialn 53 (3) hR.2 rfl (by decide) (by decide) d_Fa_becomeSaidBy_52 rfl ?_
  refine V_puti 56 5 hF kc_Fa (by decide) fl_Fa_37 (Or.inl rfl) rfl rfl rfl rfl d_Fa_becomeSaidBy_53 rfl ?_
  exact V_vret rfl d_Fa_becomeSaidBy_56 ⟨rfl, rfl, rfl⟩
end

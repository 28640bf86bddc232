section
-- ===== PART A: goes FIRST, ahead of the names: the tables' words, and 'selects' of the private methods out of them =====
/-- a private method of a class that the tables say can be made, by its rows of tables_1 -/
def lw_okq (q : MethodName × Nat) : Prop := (q.1.cls ≠ "java/lang/invoke/MethodHandle" ∧ q.1.cls ≠ "java/lang/invoke/VarHandle") ∧ Cond.instantiable q.1.cls q.2 ∈ tables_1 ∧ Cond.privateMethod q.1 ∈ tables_1 ∧ Cond.instanceMethod q.1 ∈ tables_1
theorem lw_p0 : lw_okq (⟨"ProofGate", "sealOf", "(LProofGate$Credential;)I"⟩, 10) := ⟨⟨by decide +kernel, by decide +kernel⟩, List.mem_of_getElem? (i := 28) (by decide +kernel), List.mem_of_getElem? (i := 280) (by decide +kernel), List.mem_of_getElem? (i := 281) (by decide +kernel)⟩
theorem lw_p1 : lw_okq (⟨"ProofGate$Credential", "mark", "()I"⟩, 6) := ⟨⟨by decide +kernel, by decide +kernel⟩, List.mem_of_getElem? (i := 236) (by decide +kernel), List.mem_of_getElem? (i := 284) (by decide +kernel), List.mem_of_getElem? (i := 285) (by decide +kernel)⟩
theorem lw_p2 : lw_okq (⟨"ProofGate$Credentials", "letTimeGoOn", "(I)I"⟩, 2) := ⟨⟨by decide +kernel, by decide +kernel⟩, List.mem_of_getElem? (i := 36) (by decide +kernel), List.mem_of_getElem? (i := 301) (by decide +kernel), List.mem_of_getElem? (i := 302) (by decide +kernel)⟩
theorem lw_p3 : lw_okq (⟨"ProofGate$Proof", "append", "(III)I"⟩, 4) := ⟨⟨by decide +kernel, by decide +kernel⟩, List.mem_of_getElem? (i := 76) (by decide +kernel), List.mem_of_getElem? (i := 309) (by decide +kernel), List.mem_of_getElem? (i := 310) (by decide +kernel)⟩
theorem lw_p4 : lw_okq (⟨"ProofGate$Proof", "makeEmpty", "()I"⟩, 4) := ⟨⟨by decide +kernel, by decide +kernel⟩, List.mem_of_getElem? (i := 76) (by decide +kernel), List.mem_of_getElem? (i := 317) (by decide +kernel), List.mem_of_getElem? (i := 318) (by decide +kernel)⟩
theorem lw_p5 : lw_okq (⟨"ProofGate$Proof", "length", "()I"⟩, 4) := ⟨⟨by decide +kernel, by decide +kernel⟩, List.mem_of_getElem? (i := 76) (by decide +kernel), List.mem_of_getElem? (i := 325) (by decide +kernel), List.mem_of_getElem? (i := 326) (by decide +kernel)⟩
theorem lw_p6 : lw_okq (⟨"ProofGate$Proof", "hasStep", "(I)Z"⟩, 4) := ⟨⟨by decide +kernel, by decide +kernel⟩, List.mem_of_getElem? (i := 76) (by decide +kernel), List.mem_of_getElem? (i := 333) (by decide +kernel), List.mem_of_getElem? (i := 334) (by decide +kernel)⟩
theorem lw_p7 : lw_okq (⟨"ProofGate$Proof", "ruleAt", "(I)I"⟩, 4) := ⟨⟨by decide +kernel, by decide +kernel⟩, List.mem_of_getElem? (i := 76) (by decide +kernel), List.mem_of_getElem? (i := 337) (by decide +kernel), List.mem_of_getElem? (i := 338) (by decide +kernel)⟩
theorem lw_p8 : lw_okq (⟨"ProofGate$Proof", "xAt", "(I)I"⟩, 4) := ⟨⟨by decide +kernel, by decide +kernel⟩, List.mem_of_getElem? (i := 76) (by decide +kernel), List.mem_of_getElem? (i := 341) (by decide +kernel), List.mem_of_getElem? (i := 342) (by decide +kernel)⟩
theorem lw_p9 : lw_okq (⟨"ProofGate$Proof", "yAt", "(I)I"⟩, 4) := ⟨⟨by decide +kernel, by decide +kernel⟩, List.mem_of_getElem? (i := 76) (by decide +kernel), List.mem_of_getElem? (i := 345) (by decide +kernel), List.mem_of_getElem? (i := 346) (by decide +kernel)⟩
theorem lw_p10 : lw_okq (⟨"ProofGate", "isOpenTo", "(II)Z"⟩, 10) := ⟨⟨by decide +kernel, by decide +kernel⟩, List.mem_of_getElem? (i := 28) (by decide +kernel), List.mem_of_getElem? (i := 362) (by decide +kernel), List.mem_of_getElem? (i := 363) (by decide +kernel)⟩
theorem lw_p11 : lw_okq (⟨"ProofGate", "sayerOfGoal", "(II)I"⟩, 10) := ⟨⟨by decide +kernel, by decide +kernel⟩, List.mem_of_getElem? (i := 28) (by decide +kernel), List.mem_of_getElem? (i := 366) (by decide +kernel), List.mem_of_getElem? (i := 367) (by decide +kernel)⟩
theorem lw_p12 : lw_okq (⟨"ProofGate$Prover", "writeProof", "(IIII)I"⟩, 9) := ⟨⟨by decide +kernel, by decide +kernel⟩, List.mem_of_getElem? (i := 95) (by decide +kernel), List.mem_of_getElem? (i := 370) (by decide +kernel), List.mem_of_getElem? (i := 371) (by decide +kernel)⟩
theorem lw_p13 : lw_okq (⟨"ProofGate$Prover", "finds", "(II)Z"⟩, 9) := ⟨⟨by decide +kernel, by decide +kernel⟩, List.mem_of_getElem? (i := 95) (by decide +kernel), List.mem_of_getElem? (i := 377) (by decide +kernel), List.mem_of_getElem? (i := 378) (by decide +kernel)⟩
theorem lw_p14 : lw_okq (⟨"ProofGate$Prover", "findWhatIsSaid", "(I)V"⟩, 9) := ⟨⟨by decide +kernel, by decide +kernel⟩, List.mem_of_getElem? (i := 95) (by decide +kernel), List.mem_of_getElem? (i := 382) (by decide +kernel), List.mem_of_getElem? (i := 383) (by decide +kernel)⟩
theorem lw_p15 : lw_okq (⟨"ProofGate$Credentials", "count", "()I"⟩, 2) := ⟨⟨by decide +kernel, by decide +kernel⟩, List.mem_of_getElem? (i := 36) (by decide +kernel), List.mem_of_getElem? (i := 386) (by decide +kernel), List.mem_of_getElem? (i := 387) (by decide +kernel)⟩
def lw_privs_1 : List (MethodName × Nat) := [(⟨"ProofGate", "sealOf", "(LProofGate$Credential;)I"⟩, 10), (⟨"ProofGate$Credential", "mark", "()I"⟩, 6), (⟨"ProofGate$Credentials", "letTimeGoOn", "(I)I"⟩, 2), (⟨"ProofGate$Proof", "append", "(III)I"⟩, 4), (⟨"ProofGate$Proof", "makeEmpty", "()I"⟩, 4), (⟨"ProofGate$Proof", "length", "()I"⟩, 4), (⟨"ProofGate$Proof", "hasStep", "(I)Z"⟩, 4), (⟨"ProofGate$Proof", "ruleAt", "(I)I"⟩, 4), (⟨"ProofGate$Proof", "xAt", "(I)I"⟩, 4), (⟨"ProofGate$Proof", "yAt", "(I)I"⟩, 4), (⟨"ProofGate", "isOpenTo", "(II)Z"⟩, 10), (⟨"ProofGate", "sayerOfGoal", "(II)I"⟩, 10), (⟨"ProofGate$Prover", "writeProof", "(IIII)I"⟩, 9), (⟨"ProofGate$Prover", "finds", "(II)Z"⟩, 9), (⟨"ProofGate$Prover", "findWhatIsSaid", "(I)V"⟩, 9), (⟨"ProofGate$Credentials", "count", "()I"⟩, 2)]
theorem lw_r1 : ∀ q ∈ lw_privs_1, lw_okq q := List.forall_mem_cons.mpr ⟨lw_p0, List.forall_mem_cons.mpr ⟨lw_p1, List.forall_mem_cons.mpr ⟨lw_p2, List.forall_mem_cons.mpr ⟨lw_p3, List.forall_mem_cons.mpr ⟨lw_p4, List.forall_mem_cons.mpr ⟨lw_p5, List.forall_mem_cons.mpr ⟨lw_p6, List.forall_mem_cons.mpr ⟨lw_p7, List.forall_mem_cons.mpr ⟨lw_p8, List.forall_mem_cons.mpr ⟨lw_p9, List.forall_mem_cons.mpr ⟨lw_p10, List.forall_mem_cons.mpr ⟨lw_p11, List.forall_mem_cons.mpr ⟨lw_p12, List.forall_mem_cons.mpr ⟨lw_p13, List.forall_mem_cons.mpr ⟨lw_p14, List.forall_mem_cons.mpr ⟨lw_p15, fun _ h => absurd h List.not_mem_nil⟩⟩⟩⟩⟩⟩⟩⟩⟩⟩⟩⟩⟩⟩⟩⟩
theorem lw_p16 : lw_okq (⟨"ProofGate$Credentials", "findValid", "(I)LProofGate$Credential;"⟩, 2) := ⟨⟨by decide +kernel, by decide +kernel⟩, List.mem_of_getElem? (i := 36) (by decide +kernel), List.mem_of_getElem? (i := 394) (by decide +kernel), List.mem_of_getElem? (i := 395) (by decide +kernel)⟩
theorem lw_p17 : lw_okq (⟨"ProofGate$Credentials", "find", "(I)LProofGate$Credential;"⟩, 2) := ⟨⟨by decide +kernel, by decide +kernel⟩, List.mem_of_getElem? (i := 36) (by decide +kernel), List.mem_of_getElem? (i := 398) (by decide +kernel), List.mem_of_getElem? (i := 399) (by decide +kernel)⟩
theorem lw_p18 : lw_okq (⟨"ProofGate$Credential", "isValidAt", "(I)Z"⟩, 6) := ⟨⟨by decide +kernel, by decide +kernel⟩, List.mem_of_getElem? (i := 236) (by decide +kernel), List.mem_of_getElem? (i := 417) (by decide +kernel), List.mem_of_getElem? (i := 418) (by decide +kernel)⟩
theorem lw_p19 : lw_okq (⟨"ProofGate$Prover", "reach", "(IIII)V"⟩, 9) := ⟨⟨by decide +kernel, by decide +kernel⟩, List.mem_of_getElem? (i := 95) (by decide +kernel), List.mem_of_getElem? (i := 430) (by decide +kernel), List.mem_of_getElem? (i := 431) (by decide +kernel)⟩
theorem lw_p20 : lw_okq (⟨"ProofGate$Prover", "findWhatFollows", "()V"⟩, 9) := ⟨⟨by decide +kernel, by decide +kernel⟩, List.mem_of_getElem? (i := 95) (by decide +kernel), List.mem_of_getElem? (i := 434) (by decide +kernel), List.mem_of_getElem? (i := 435) (by decide +kernel)⟩
theorem lw_p21 : lw_okq (⟨"ProofGate$Prover", "findMayByVoice", "()V"⟩, 9) := ⟨⟨by decide +kernel, by decide +kernel⟩, List.mem_of_getElem? (i := 95) (by decide +kernel), List.mem_of_getElem? (i := 438) (by decide +kernel), List.mem_of_getElem? (i := 439) (by decide +kernel)⟩
theorem lw_p22 : lw_okq (⟨"ProofGate$Prover", "isKnown", "(I)Z"⟩, 9) := ⟨⟨by decide +kernel, by decide +kernel⟩, List.mem_of_getElem? (i := 95) (by decide +kernel), List.mem_of_getElem? (i := 442) (by decide +kernel), List.mem_of_getElem? (i := 443) (by decide +kernel)⟩
theorem lw_p23 : lw_okq (⟨"ProofGate$Prover", "handOnMay", "(IIIII)V"⟩, 9) := ⟨⟨by decide +kernel, by decide +kernel⟩, List.mem_of_getElem? (i := 95) (by decide +kernel), List.mem_of_getElem? (i := 446) (by decide +kernel), List.mem_of_getElem? (i := 447) (by decide +kernel)⟩
theorem lw_p24 : lw_okq (⟨"ProofGate$Prover", "findMayByTrust", "()V"⟩, 9) := ⟨⟨by decide +kernel, by decide +kernel⟩, List.mem_of_getElem? (i := 95) (by decide +kernel), List.mem_of_getElem? (i := 450) (by decide +kernel), List.mem_of_getElem? (i := 451) (by decide +kernel)⟩
theorem lw_p25 : lw_okq (⟨"ProofGate$Prover", "findTrustByTrust", "()V"⟩, 9) := ⟨⟨by decide +kernel, by decide +kernel⟩, List.mem_of_getElem? (i := 95) (by decide +kernel), List.mem_of_getElem? (i := 454) (by decide +kernel), List.mem_of_getElem? (i := 455) (by decide +kernel)⟩
theorem lw_p26 : lw_okq (⟨"ProofGate$Prover", "handOnTrust", "(IIIIII)V"⟩, 9) := ⟨⟨by decide +kernel, by decide +kernel⟩, List.mem_of_getElem? (i := 95) (by decide +kernel), List.mem_of_getElem? (i := 458) (by decide +kernel), List.mem_of_getElem? (i := 459) (by decide +kernel)⟩
theorem lw_p27 : lw_okq (⟨"ProofGate$Prover", "findTrustByVoice", "()V"⟩, 9) := ⟨⟨by decide +kernel, by decide +kernel⟩, List.mem_of_getElem? (i := 95) (by decide +kernel), List.mem_of_getElem? (i := 465) (by decide +kernel), List.mem_of_getElem? (i := 466) (by decide +kernel)⟩
theorem lw_p28 : lw_okq (⟨"ProofGate$Prover", "findVoiceByVoice", "()V"⟩, 9) := ⟨⟨by decide +kernel, by decide +kernel⟩, List.mem_of_getElem? (i := 95) (by decide +kernel), List.mem_of_getElem? (i := 469) (by decide +kernel), List.mem_of_getElem? (i := 470) (by decide +kernel)⟩
theorem lw_p29 : lw_okq (⟨"ProofGate$Prover", "handOnVoice", "(II)V"⟩, 9) := ⟨⟨by decide +kernel, by decide +kernel⟩, List.mem_of_getElem? (i := 95) (by decide +kernel), List.mem_of_getElem? (i := 473) (by decide +kernel), List.mem_of_getElem? (i := 474) (by decide +kernel)⟩
theorem lw_p30 : lw_okq (⟨"ProofGate$Prover", "findImplied", "()V"⟩, 9) := ⟨⟨by decide +kernel, by decide +kernel⟩, List.mem_of_getElem? (i := 95) (by decide +kernel), List.mem_of_getElem? (i := 477) (by decide +kernel), List.mem_of_getElem? (i := 478) (by decide +kernel)⟩
theorem lw_p31 : lw_okq (⟨"ProofGate$Prover", "applyImply", "(IIII)V"⟩, 9) := ⟨⟨by decide +kernel, by decide +kernel⟩, List.mem_of_getElem? (i := 95) (by decide +kernel), List.mem_of_getElem? (i := 481) (by decide +kernel), List.mem_of_getElem? (i := 482) (by decide +kernel)⟩
def lw_privs_2 : List (MethodName × Nat) := [(⟨"ProofGate$Credentials", "findValid", "(I)LProofGate$Credential;"⟩, 2), (⟨"ProofGate$Credentials", "find", "(I)LProofGate$Credential;"⟩, 2), (⟨"ProofGate$Credential", "isValidAt", "(I)Z"⟩, 6), (⟨"ProofGate$Prover", "reach", "(IIII)V"⟩, 9), (⟨"ProofGate$Prover", "findWhatFollows", "()V"⟩, 9), (⟨"ProofGate$Prover", "findMayByVoice", "()V"⟩, 9), (⟨"ProofGate$Prover", "isKnown", "(I)Z"⟩, 9), (⟨"ProofGate$Prover", "handOnMay", "(IIIII)V"⟩, 9), (⟨"ProofGate$Prover", "findMayByTrust", "()V"⟩, 9), (⟨"ProofGate$Prover", "findTrustByTrust", "()V"⟩, 9), (⟨"ProofGate$Prover", "handOnTrust", "(IIIIII)V"⟩, 9), (⟨"ProofGate$Prover", "findTrustByVoice", "()V"⟩, 9), (⟨"ProofGate$Prover", "findVoiceByVoice", "()V"⟩, 9), (⟨"ProofGate$Prover", "handOnVoice", "(II)V"⟩, 9), (⟨"ProofGate$Prover", "findImplied", "()V"⟩, 9), (⟨"ProofGate$Prover", "applyImply", "(IIII)V"⟩, 9)]
theorem lw_r2 : ∀ q ∈ lw_privs_2, lw_okq q := List.forall_mem_cons.mpr ⟨lw_p16, List.forall_mem_cons.mpr ⟨lw_p17, List.forall_mem_cons.mpr ⟨lw_p18, List.forall_mem_cons.mpr ⟨lw_p19, List.forall_mem_cons.mpr ⟨lw_p20, List.forall_mem_cons.mpr ⟨lw_p21, List.forall_mem_cons.mpr ⟨lw_p22, List.forall_mem_cons.mpr ⟨lw_p23, List.forall_mem_cons.mpr ⟨lw_p24, List.forall_mem_cons.mpr ⟨lw_p25, List.forall_mem_cons.mpr ⟨lw_p26, List.forall_mem_cons.mpr ⟨lw_p27, List.forall_mem_cons.mpr ⟨lw_p28, List.forall_mem_cons.mpr ⟨lw_p29, List.forall_mem_cons.mpr ⟨lw_p30, List.forall_mem_cons.mpr ⟨lw_p31, fun _ h => absurd h List.not_mem_nil⟩⟩⟩⟩⟩⟩⟩⟩⟩⟩⟩⟩⟩⟩⟩⟩
theorem lw_p32 : lw_okq (⟨"ProofGate$Prover", "writesStep", "(II)Z"⟩, 9) := ⟨⟨by decide +kernel, by decide +kernel⟩, List.mem_of_getElem? (i := 95) (by decide +kernel), List.mem_of_getElem? (i := 486) (by decide +kernel), List.mem_of_getElem? (i := 487) (by decide +kernel)⟩
theorem lw_p33 : lw_okq (⟨"ProofGate$Prover", "written", "()LProofGate$Proof;"⟩, 9) := ⟨⟨by decide +kernel, by decide +kernel⟩, List.mem_of_getElem? (i := 95) (by decide +kernel), List.mem_of_getElem? (i := 492) (by decide +kernel), List.mem_of_getElem? (i := 493) (by decide +kernel)⟩
theorem lw_p34 : lw_okq (⟨"ProofGate$Proof", "become", "(LProofGate$Proof;)V"⟩, 4) := ⟨⟨by decide +kernel, by decide +kernel⟩, List.mem_of_getElem? (i := 76) (by decide +kernel), List.mem_of_getElem? (i := 496) (by decide +kernel), List.mem_of_getElem? (i := 497) (by decide +kernel)⟩
theorem lw_p35 : lw_okq (⟨"ProofGate$Checker", "accepts", "(LProofGate$Proof;IIII)Z"⟩, 2) := ⟨⟨by decide +kernel, by decide +kernel⟩, List.mem_of_getElem? (i := 131) (by decide +kernel), List.mem_of_getElem? (i := 507) (by decide +kernel), List.mem_of_getElem? (i := 508) (by decide +kernel)⟩
theorem lw_p36 : lw_okq (⟨"ProofGate$Checker", "follows", "(IIII)Z"⟩, 2) := ⟨⟨by decide +kernel, by decide +kernel⟩, List.mem_of_getElem? (i := 131) (by decide +kernel), List.mem_of_getElem? (i := 515) (by decide +kernel), List.mem_of_getElem? (i := 516) (by decide +kernel)⟩
theorem lw_p37 : lw_okq (⟨"ProofGate$Fact", "becomeSaidBy", "(LProofGate$Credential;)V"⟩, 6) := ⟨⟨by decide +kernel, by decide +kernel⟩, List.mem_of_getElem? (i := 138) (by decide +kernel), List.mem_of_getElem? (i := 523) (by decide +kernel), List.mem_of_getElem? (i := 524) (by decide +kernel)⟩
theorem lw_p38 : lw_okq (⟨"ProofGate$Fact", "become", "(LProofGate$Fact;)V"⟩, 6) := ⟨⟨by decide +kernel, by decide +kernel⟩, List.mem_of_getElem? (i := 138) (by decide +kernel), List.mem_of_getElem? (i := 530) (by decide +kernel), List.mem_of_getElem? (i := 531) (by decide +kernel)⟩
theorem lw_p39 : lw_okq (⟨"ProofGate$Fact", "isOfSameThing", "(LProofGate$Fact;)Z"⟩, 6) := ⟨⟨by decide +kernel, by decide +kernel⟩, List.mem_of_getElem? (i := 138) (by decide +kernel), List.mem_of_getElem? (i := 540) (by decide +kernel), List.mem_of_getElem? (i := 541) (by decide +kernel)⟩
theorem lw_p40 : lw_okq (⟨"ProofGate$Fact", "isMay", "(IIII)Z"⟩, 6) := ⟨⟨by decide +kernel, by decide +kernel⟩, List.mem_of_getElem? (i := 138) (by decide +kernel), List.mem_of_getElem? (i := 548) (by decide +kernel), List.mem_of_getElem? (i := 549) (by decide +kernel)⟩
theorem lw_p41 : lw_okq (⟨"ProofGate$Fuse", "light", "(I)V"⟩, 1) := ⟨⟨by decide +kernel, by decide +kernel⟩, List.mem_of_getElem? (i := 188) (by decide +kernel), List.mem_of_getElem? (i := 556) (by decide +kernel), List.mem_of_getElem? (i := 557) (by decide +kernel)⟩
theorem lw_p42 : lw_okq (⟨"ProofGate$AuditLog", "count", "()I"⟩, 2) := ⟨⟨by decide +kernel, by decide +kernel⟩, List.mem_of_getElem? (i := 175) (by decide +kernel), List.mem_of_getElem? (i := 578) (by decide +kernel), List.mem_of_getElem? (i := 579) (by decide +kernel)⟩
theorem lw_p43 : lw_okq (⟨"ProofGate$AuditLog", "link", "()I"⟩, 2) := ⟨⟨by decide +kernel, by decide +kernel⟩, List.mem_of_getElem? (i := 175) (by decide +kernel), List.mem_of_getElem? (i := 586) (by decide +kernel), List.mem_of_getElem? (i := 587) (by decide +kernel)⟩
theorem lw_p44 : lw_okq (⟨"ProofGate$Credential", "isWellFormed", "()Z"⟩, 6) := ⟨⟨by decide +kernel, by decide +kernel⟩, List.mem_of_getElem? (i := 236) (by decide +kernel), List.mem_of_getElem? (i := 603) (by decide +kernel), List.mem_of_getElem? (i := 604) (by decide +kernel)⟩
theorem lw_p45 : lw_okq (⟨"java/lang/Throwable", "fillInStackTrace", "(I)Ljava/lang/Throwable;"⟩, 6) := ⟨⟨by decide +kernel, by decide +kernel⟩, List.mem_of_getElem? (i := 647) (by decide +kernel), List.mem_of_getElem? (i := 645) (by decide +kernel), List.mem_of_getElem? (i := 646) (by decide +kernel)⟩
theorem lw_p46 : lw_okq (⟨"ProofGate", "writeRecord", "()V"⟩, 10) := ⟨⟨by decide +kernel, by decide +kernel⟩, List.mem_of_getElem? (i := 28) (by decide +kernel), List.mem_of_getElem? (i := 709) (by decide +kernel), List.mem_of_getElem? (i := 710) (by decide +kernel)⟩
theorem lw_p47 : lw_okq (⟨"ProofGate$Fuse", "burnsThrough", "()Z"⟩, 1) := ⟨⟨by decide +kernel, by decide +kernel⟩, List.mem_of_getElem? (i := 188) (by decide +kernel), List.mem_of_getElem? (i := 713) (by decide +kernel), List.mem_of_getElem? (i := 714) (by decide +kernel)⟩
def lw_privs_3 : List (MethodName × Nat) := [(⟨"ProofGate$Prover", "writesStep", "(II)Z"⟩, 9), (⟨"ProofGate$Prover", "written", "()LProofGate$Proof;"⟩, 9), (⟨"ProofGate$Proof", "become", "(LProofGate$Proof;)V"⟩, 4), (⟨"ProofGate$Checker", "accepts", "(LProofGate$Proof;IIII)Z"⟩, 2), (⟨"ProofGate$Checker", "follows", "(IIII)Z"⟩, 2), (⟨"ProofGate$Fact", "becomeSaidBy", "(LProofGate$Credential;)V"⟩, 6), (⟨"ProofGate$Fact", "become", "(LProofGate$Fact;)V"⟩, 6), (⟨"ProofGate$Fact", "isOfSameThing", "(LProofGate$Fact;)Z"⟩, 6), (⟨"ProofGate$Fact", "isMay", "(IIII)Z"⟩, 6), (⟨"ProofGate$Fuse", "light", "(I)V"⟩, 1), (⟨"ProofGate$AuditLog", "count", "()I"⟩, 2), (⟨"ProofGate$AuditLog", "link", "()I"⟩, 2), (⟨"ProofGate$Credential", "isWellFormed", "()Z"⟩, 6), (⟨"java/lang/Throwable", "fillInStackTrace", "(I)Ljava/lang/Throwable;"⟩, 6), (⟨"ProofGate", "writeRecord", "()V"⟩, 10), (⟨"ProofGate$Fuse", "burnsThrough", "()Z"⟩, 1)]
theorem lw_r3 : ∀ q ∈ lw_privs_3, lw_okq q := List.forall_mem_cons.mpr ⟨lw_p32, List.forall_mem_cons.mpr ⟨lw_p33, List.forall_mem_cons.mpr ⟨lw_p34, List.forall_mem_cons.mpr ⟨lw_p35, List.forall_mem_cons.mpr ⟨lw_p36, List.forall_mem_cons.mpr ⟨lw_p37, List.forall_mem_cons.mpr ⟨lw_p38, List.forall_mem_cons.mpr ⟨lw_p39, List.forall_mem_cons.mpr ⟨lw_p40, List.forall_mem_cons.mpr ⟨lw_p41, List.forall_mem_cons.mpr ⟨lw_p42, List.forall_mem_cons.mpr ⟨lw_p43, List.forall_mem_cons.mpr ⟨lw_p44, List.forall_mem_cons.mpr ⟨lw_p45, List.forall_mem_cons.mpr ⟨lw_p46, List.forall_mem_cons.mpr ⟨lw_p47, fun _ h => absurd h List.not_mem_nil⟩⟩⟩⟩⟩⟩⟩⟩⟩⟩⟩⟩⟩⟩⟩⟩
theorem lw_p48 : lw_okq (⟨"ProofGate$Credentials", "take", "(LProofGate$Credential;)I"⟩, 2) := ⟨⟨by decide +kernel, by decide +kernel⟩, List.mem_of_getElem? (i := 36) (by decide +kernel), List.mem_of_getElem? (i := 718) (by decide +kernel), List.mem_of_getElem? (i := 719) (by decide +kernel)⟩
theorem lw_p49 : lw_okq (⟨"java/util/ArrayList", "add", "(Ljava/lang/Object;[Ljava/lang/Object;I)V"⟩, 3) := ⟨⟨by decide +kernel, by decide +kernel⟩, List.mem_of_getElem? (i := 42) (by decide +kernel), List.mem_of_getElem? (i := 726) (by decide +kernel), List.mem_of_getElem? (i := 727) (by decide +kernel)⟩
theorem lw_p50 : lw_okq (⟨"java/util/ArrayList", "grow", "()[Ljava/lang/Object;"⟩, 3) := ⟨⟨by decide +kernel, by decide +kernel⟩, List.mem_of_getElem? (i := 42) (by decide +kernel), List.mem_of_getElem? (i := 730) (by decide +kernel), List.mem_of_getElem? (i := 731) (by decide +kernel)⟩
theorem lw_p51 : lw_okq (⟨"java/util/ArrayList", "grow", "(I)[Ljava/lang/Object;"⟩, 3) := ⟨⟨by decide +kernel, by decide +kernel⟩, List.mem_of_getElem? (i := 42) (by decide +kernel), List.mem_of_getElem? (i := 734) (by decide +kernel), List.mem_of_getElem? (i := 735) (by decide +kernel)⟩
theorem lw_p52 : lw_okq (⟨"ProofGate", "useUpDraft", "(III)I"⟩, 10) := ⟨⟨by decide +kernel, by decide +kernel⟩, List.mem_of_getElem? (i := 28) (by decide +kernel), List.mem_of_getElem? (i := 815) (by decide +kernel), List.mem_of_getElem? (i := 816) (by decide +kernel)⟩
theorem lw_p53 : lw_okq (⟨"ProofGate$AuditLog", "addGrant", "(IIII)V"⟩, 2) := ⟨⟨by decide +kernel, by decide +kernel⟩, List.mem_of_getElem? (i := 175) (by decide +kernel), List.mem_of_getElem? (i := 820) (by decide +kernel), List.mem_of_getElem? (i := 821) (by decide +kernel)⟩
theorem lw_p54 : lw_okq (⟨"ProofGate", "carryOut", "(IIII)I"⟩, 10) := ⟨⟨by decide +kernel, by decide +kernel⟩, List.mem_of_getElem? (i := 28) (by decide +kernel), List.mem_of_getElem? (i := 824) (by decide +kernel), List.mem_of_getElem? (i := 825) (by decide +kernel)⟩
theorem lw_p55 : lw_okq (⟨"ProofGateModel", "isFit", "(I)Z"⟩, 38) := ⟨⟨by decide +kernel, by decide +kernel⟩, List.mem_of_getElem? (i := 828) (by decide +kernel), List.mem_of_getElem? (i := 981) (by decide +kernel), List.mem_of_getElem? (i := 982) (by decide +kernel)⟩
theorem lw_p56 : lw_okq (⟨"ProofGateModel", "fails", "(I)I"⟩, 38) := ⟨⟨by decide +kernel, by decide +kernel⟩, List.mem_of_getElem? (i := 828) (by decide +kernel), List.mem_of_getElem? (i := 988) (by decide +kernel), List.mem_of_getElem? (i := 989) (by decide +kernel)⟩
theorem lw_p57 : lw_okq (⟨"ProofGateModel", "recorded", "()Z"⟩, 38) := ⟨⟨by decide +kernel, by decide +kernel⟩, List.mem_of_getElem? (i := 828) (by decide +kernel), List.mem_of_getElem? (i := 993) (by decide +kernel), List.mem_of_getElem? (i := 994) (by decide +kernel)⟩
theorem lw_p58 : lw_okq (⟨"ProofGateModel", "isGoal", "(III)Z"⟩, 38) := ⟨⟨by decide +kernel, by decide +kernel⟩, List.mem_of_getElem? (i := 828) (by decide +kernel), List.mem_of_getElem? (i := 1021) (by decide +kernel), List.mem_of_getElem? (i := 1022) (by decide +kernel)⟩
theorem lw_p59 : lw_okq (⟨"ProofGateModel", "sayer", "(II)I"⟩, 38) := ⟨⟨by decide +kernel, by decide +kernel⟩, List.mem_of_getElem? (i := 828) (by decide +kernel), List.mem_of_getElem? (i := 1025) (by decide +kernel), List.mem_of_getElem? (i := 1026) (by decide +kernel)⟩
theorem lw_p60 : lw_okq (⟨"ProofGateModel", "proof", "(II)I"⟩, 38) := ⟨⟨by decide +kernel, by decide +kernel⟩, List.mem_of_getElem? (i := 828) (by decide +kernel), List.mem_of_getElem? (i := 1032) (by decide +kernel), List.mem_of_getElem? (i := 1033) (by decide +kernel)⟩
theorem lw_p61 : lw_okq (⟨"ProofGateModel", "said", "()V"⟩, 38) := ⟨⟨by decide +kernel, by decide +kernel⟩, List.mem_of_getElem? (i := 828) (by decide +kernel), List.mem_of_getElem? (i := 1036) (by decide +kernel), List.mem_of_getElem? (i := 1037) (by decide +kernel)⟩
theorem lw_p62 : lw_okq (⟨"ProofGateModel", "holds", "(I)Z"⟩, 38) := ⟨⟨by decide +kernel, by decide +kernel⟩, List.mem_of_getElem? (i := 828) (by decide +kernel), List.mem_of_getElem? (i := 1040) (by decide +kernel), List.mem_of_getElem? (i := 1041) (by decide +kernel)⟩
theorem lw_p63 : lw_okq (⟨"ProofGateModel", "finds", "(IIII)Z"⟩, 38) := ⟨⟨by decide +kernel, by decide +kernel⟩, List.mem_of_getElem? (i := 828) (by decide +kernel), List.mem_of_getElem? (i := 1050) (by decide +kernel), List.mem_of_getElem? (i := 1051) (by decide +kernel)⟩
def lw_privs_4 : List (MethodName × Nat) := [(⟨"ProofGate$Credentials", "take", "(LProofGate$Credential;)I"⟩, 2), (⟨"java/util/ArrayList", "add", "(Ljava/lang/Object;[Ljava/lang/Object;I)V"⟩, 3), (⟨"java/util/ArrayList", "grow", "()[Ljava/lang/Object;"⟩, 3), (⟨"java/util/ArrayList", "grow", "(I)[Ljava/lang/Object;"⟩, 3), (⟨"ProofGate", "useUpDraft", "(III)I"⟩, 10), (⟨"ProofGate$AuditLog", "addGrant", "(IIII)V"⟩, 2), (⟨"ProofGate", "carryOut", "(IIII)I"⟩, 10), (⟨"ProofGateModel", "isFit", "(I)Z"⟩, 38), (⟨"ProofGateModel", "fails", "(I)I"⟩, 38), (⟨"ProofGateModel", "recorded", "()Z"⟩, 38), (⟨"ProofGateModel", "isGoal", "(III)Z"⟩, 38), (⟨"ProofGateModel", "sayer", "(II)I"⟩, 38), (⟨"ProofGateModel", "proof", "(II)I"⟩, 38), (⟨"ProofGateModel", "said", "()V"⟩, 38), (⟨"ProofGateModel", "holds", "(I)Z"⟩, 38), (⟨"ProofGateModel", "finds", "(IIII)Z"⟩, 38)]
theorem lw_r4 : ∀ q ∈ lw_privs_4, lw_okq q := List.forall_mem_cons.mpr ⟨lw_p48, List.forall_mem_cons.mpr ⟨lw_p49, List.forall_mem_cons.mpr ⟨lw_p50, List.forall_mem_cons.mpr ⟨lw_p51, List.forall_mem_cons.mpr ⟨lw_p52, List.forall_mem_cons.mpr ⟨lw_p53, List.forall_mem_cons.mpr ⟨lw_p54, List.forall_mem_cons.mpr ⟨lw_p55, List.forall_mem_cons.mpr ⟨lw_p56, List.forall_mem_cons.mpr ⟨lw_p57, List.forall_mem_cons.mpr ⟨lw_p58, List.forall_mem_cons.mpr ⟨lw_p59, List.forall_mem_cons.mpr ⟨lw_p60, List.forall_mem_cons.mpr ⟨lw_p61, List.forall_mem_cons.mpr ⟨lw_p62, List.forall_mem_cons.mpr ⟨lw_p63, fun _ h => absurd h List.not_mem_nil⟩⟩⟩⟩⟩⟩⟩⟩⟩⟩⟩⟩⟩⟩⟩⟩
theorem lw_p64 : lw_okq (⟨"ProofGateModel", "goesOn", "()Z"⟩, 38) := ⟨⟨by decide +kernel, by decide +kernel⟩, List.mem_of_getElem? (i := 828) (by decide +kernel), List.mem_of_getElem? (i := 1054) (by decide +kernel), List.mem_of_getElem? (i := 1055) (by decide +kernel)⟩
theorem lw_p65 : lw_okq (⟨"ProofGateModel", "newMay", "(III)Z"⟩, 38) := ⟨⟨by decide +kernel, by decide +kernel⟩, List.mem_of_getElem? (i := 828) (by decide +kernel), List.mem_of_getElem? (i := 1058) (by decide +kernel), List.mem_of_getElem? (i := 1059) (by decide +kernel)⟩
theorem lw_p66 : lw_okq (⟨"ProofGateModel", "had", "(I)Z"⟩, 38) := ⟨⟨by decide +kernel, by decide +kernel⟩, List.mem_of_getElem? (i := 828) (by decide +kernel), List.mem_of_getElem? (i := 1062) (by decide +kernel), List.mem_of_getElem? (i := 1063) (by decide +kernel)⟩
theorem lw_p67 : lw_okq (⟨"ProofGateModel", "newTrust", "(IIII)Z"⟩, 38) := ⟨⟨by decide +kernel, by decide +kernel⟩, List.mem_of_getElem? (i := 828) (by decide +kernel), List.mem_of_getElem? (i := 1066) (by decide +kernel), List.mem_of_getElem? (i := 1067) (by decide +kernel)⟩
theorem lw_p68 : lw_okq (⟨"ProofGateModel", "newVoice", "(II)Z"⟩, 38) := ⟨⟨by decide +kernel, by decide +kernel⟩, List.mem_of_getElem? (i := 828) (by decide +kernel), List.mem_of_getElem? (i := 1070) (by decide +kernel), List.mem_of_getElem? (i := 1071) (by decide +kernel)⟩
theorem lw_p69 : lw_okq (⟨"ProofGateModel", "needed", "(I)I"⟩, 38) := ⟨⟨by decide +kernel, by decide +kernel⟩, List.mem_of_getElem? (i := 828) (by decide +kernel), List.mem_of_getElem? (i := 1074) (by decide +kernel), List.mem_of_getElem? (i := 1075) (by decide +kernel)⟩
theorem lw_p70 : lw_okq (⟨"ProofGateModel", "note", "(I)V"⟩, 38) := ⟨⟨by decide +kernel, by decide +kernel⟩, List.mem_of_getElem? (i := 828) (by decide +kernel), List.mem_of_getElem? (i := 1078) (by decide +kernel), List.mem_of_getElem? (i := 1079) (by decide +kernel)⟩
theorem lw_p71 : lw_okq (⟨"ProofGateModel", "proves", "(IIII)Z"⟩, 38) := ⟨⟨by decide +kernel, by decide +kernel⟩, List.mem_of_getElem? (i := 828) (by decide +kernel), List.mem_of_getElem? (i := 1086) (by decide +kernel), List.mem_of_getElem? (i := 1087) (by decide +kernel)⟩
theorem lw_p72 : lw_okq (⟨"ProofGateModel", "proved", "(I)I"⟩, 38) := ⟨⟨by decide +kernel, by decide +kernel⟩, List.mem_of_getElem? (i := 828) (by decide +kernel), List.mem_of_getElem? (i := 1090) (by decide +kernel), List.mem_of_getElem? (i := 1091) (by decide +kernel)⟩
theorem lw_p73 : lw_okq (⟨"ProofGateModel", "spoken", "(I)I"⟩, 38) := ⟨⟨by decide +kernel, by decide +kernel⟩, List.mem_of_getElem? (i := 828) (by decide +kernel), List.mem_of_getElem? (i := 1094) (by decide +kernel), List.mem_of_getElem? (i := 1095) (by decide +kernel)⟩
theorem lw_p74 : lw_okq (⟨"ProofGateModel", "stepFact", "(II)I"⟩, 38) := ⟨⟨by decide +kernel, by decide +kernel⟩, List.mem_of_getElem? (i := 828) (by decide +kernel), List.mem_of_getElem? (i := 1101) (by decide +kernel), List.mem_of_getElem? (i := 1102) (by decide +kernel)⟩
theorem lw_p75 : lw_okq (⟨"ProofGateModel", "done", "(IIII)I"⟩, 38) := ⟨⟨by decide +kernel, by decide +kernel⟩, List.mem_of_getElem? (i := 828) (by decide +kernel), List.mem_of_getElem? (i := 1112) (by decide +kernel), List.mem_of_getElem? (i := 1113) (by decide +kernel)⟩
def lw_privs_5 : List (MethodName × Nat) := [(⟨"ProofGateModel", "goesOn", "()Z"⟩, 38), (⟨"ProofGateModel", "newMay", "(III)Z"⟩, 38), (⟨"ProofGateModel", "had", "(I)Z"⟩, 38), (⟨"ProofGateModel", "newTrust", "(IIII)Z"⟩, 38), (⟨"ProofGateModel", "newVoice", "(II)Z"⟩, 38), (⟨"ProofGateModel", "needed", "(I)I"⟩, 38), (⟨"ProofGateModel", "note", "(I)V"⟩, 38), (⟨"ProofGateModel", "proves", "(IIII)Z"⟩, 38), (⟨"ProofGateModel", "proved", "(I)I"⟩, 38), (⟨"ProofGateModel", "spoken", "(I)I"⟩, 38), (⟨"ProofGateModel", "stepFact", "(II)I"⟩, 38), (⟨"ProofGateModel", "done", "(IIII)I"⟩, 38)]
theorem lw_r5 : ∀ q ∈ lw_privs_5, lw_okq q := List.forall_mem_cons.mpr ⟨lw_p64, List.forall_mem_cons.mpr ⟨lw_p65, List.forall_mem_cons.mpr ⟨lw_p66, List.forall_mem_cons.mpr ⟨lw_p67, List.forall_mem_cons.mpr ⟨lw_p68, List.forall_mem_cons.mpr ⟨lw_p69, List.forall_mem_cons.mpr ⟨lw_p70, List.forall_mem_cons.mpr ⟨lw_p71, List.forall_mem_cons.mpr ⟨lw_p72, List.forall_mem_cons.mpr ⟨lw_p73, List.forall_mem_cons.mpr ⟨lw_p74, List.forall_mem_cons.mpr ⟨lw_p75, fun _ h => absurd h List.not_mem_nil⟩⟩⟩⟩⟩⟩⟩⟩⟩⟩⟩⟩
def lw_privs : List (MethodName × Nat) := lw_privs_1 ++ (lw_privs_2 ++ (lw_privs_3 ++ (lw_privs_4 ++ (lw_privs_5))))
def lw_tbl : List Cond := k2_sels lw_privs ++ tables_1
theorem lw_privs_ok : ∀ q ∈ lw_privs, lw_okq q := by
  show ∀ q ∈ lw_privs_1 ++ (lw_privs_2 ++ (lw_privs_3 ++ (lw_privs_4 ++ (lw_privs_5)))), lw_okq q
  exact List.forall_mem_append.mpr ⟨lw_r1, List.forall_mem_append.mpr ⟨lw_r2, List.forall_mem_append.mpr ⟨lw_r3, List.forall_mem_append.mpr ⟨lw_r4, lw_r5⟩⟩⟩⟩
end
section
/-! names: by program out of the Statement and javap; the tables' words: TB (good), NB (across a nest, casts) -/
def TB : List Cond := lw_tbl.filter goodWord
theorem TB_good : ∀ w ∈ TB, goodWord w = true := fun w h => (List.mem_filter.mp h).2
def nestWord : Cond → Bool
  | .fieldLinkNest .. => true
  | .methodLinkNest .. => true
  | .castable .. => true
  | _ => false
def NB : List Cond := lw_tbl.filter nestWord
theorem NB_warm (w : Cond) (hw : w ∈ NB) {s U : State} (hW : s.WarmedH U.vm) (h : va_Nw w s) : va_Nw w U := by
  have hn := (List.mem_filter.mp hw).2
  cases w <;> first | exact va_Nw.warmF hW h | exact va_Nw.warmM hW h | exact va_Nw.warmC hW h | (exact absurd hn (by simp [nestWord]))
theorem tb1 {w : Cond} (i : Nat) (h : tables_1_1[i]? = some w) (g : goodWord w = true) : w ∈ TB := List.mem_filter.mpr ⟨List.mem_append_right _ (show w ∈ tables_1 from (List.mem_append_left _ (List.mem_of_getElem? h))), g⟩
theorem nb1 {w : Cond} (i : Nat) (h : tables_1_1[i]? = some w) (g : nestWord w = true) : w ∈ NB := List.mem_filter.mpr ⟨List.mem_append_right _ (show w ∈ tables_1 from (List.mem_append_left _ (List.mem_of_getElem? h))), g⟩
theorem tb2 {w : Cond} (i : Nat) (h : tables_1_2[i]? = some w) (g : goodWord w = true) : w ∈ TB := List.mem_filter.mpr ⟨List.mem_append_right _ (show w ∈ tables_1 from (List.mem_append_right _ (List.mem_append_left _ (List.mem_of_getElem? h)))), g⟩
theorem nb2 {w : Cond} (i : Nat) (h : tables_1_2[i]? = some w) (g : nestWord w = true) : w ∈ NB := List.mem_filter.mpr ⟨List.mem_append_right _ (show w ∈ tables_1 from (List.mem_append_right _ (List.mem_append_left _ (List.mem_of_getElem? h)))), g⟩
theorem tb3 {w : Cond} (i : Nat) (h : tables_1_3[i]? = some w) (g : goodWord w = true) : w ∈ TB := List.mem_filter.mpr ⟨List.mem_append_right _ (show w ∈ tables_1 from (List.mem_append_right _ (List.mem_append_right _ (List.mem_append_left _ (List.mem_of_getElem? h))))), g⟩
theorem nb3 {w : Cond} (i : Nat) (h : tables_1_3[i]? = some w) (g : nestWord w = true) : w ∈ NB := List.mem_filter.mpr ⟨List.mem_append_right _ (show w ∈ tables_1 from (List.mem_append_right _ (List.mem_append_right _ (List.mem_append_left _ (List.mem_of_getElem? h))))), g⟩
theorem tb4 {w : Cond} (i : Nat) (h : tables_1_4[i]? = some w) (g : goodWord w = true) : w ∈ TB := List.mem_filter.mpr ⟨List.mem_append_right _ (show w ∈ tables_1 from (List.mem_append_right _ (List.mem_append_right _ (List.mem_append_right _ (List.mem_append_left _ (List.mem_of_getElem? h)))))), g⟩
theorem nb4 {w : Cond} (i : Nat) (h : tables_1_4[i]? = some w) (g : nestWord w = true) : w ∈ NB := List.mem_filter.mpr ⟨List.mem_append_right _ (show w ∈ tables_1 from (List.mem_append_right _ (List.mem_append_right _ (List.mem_append_right _ (List.mem_append_left _ (List.mem_of_getElem? h)))))), g⟩
theorem tb5 {w : Cond} (i : Nat) (h : tables_1_5[i]? = some w) (g : goodWord w = true) : w ∈ TB := List.mem_filter.mpr ⟨List.mem_append_right _ (show w ∈ tables_1 from (List.mem_append_right _ (List.mem_append_right _ (List.mem_append_right _ (List.mem_append_right _ (List.mem_of_getElem? h)))))), g⟩
theorem nb5 {w : Cond} (i : Nat) (h : tables_1_5[i]? = some w) (g : nestWord w = true) : w ∈ NB := List.mem_filter.mpr ⟨List.mem_append_right _ (show w ∈ tables_1 from (List.mem_append_right _ (List.mem_append_right _ (List.mem_append_right _ (List.mem_append_right _ (List.mem_of_getElem? h)))))), g⟩
theorem sp1 {q : MethodName × Nat} (i : Nat) (h : lw_privs_1[i]? = some q) : Cond.selects q.1.cls q.1 q.1 ∈ TB := List.mem_filter.mpr ⟨List.mem_append_left _ (List.mem_map.mpr ⟨q, show q ∈ lw_privs from (List.mem_append_left _ (List.mem_of_getElem? h)), rfl⟩), rfl⟩
theorem sp2 {q : MethodName × Nat} (i : Nat) (h : lw_privs_2[i]? = some q) : Cond.selects q.1.cls q.1 q.1 ∈ TB := List.mem_filter.mpr ⟨List.mem_append_left _ (List.mem_map.mpr ⟨q, show q ∈ lw_privs from (List.mem_append_right _ (List.mem_append_left _ (List.mem_of_getElem? h))), rfl⟩), rfl⟩
theorem sp3 {q : MethodName × Nat} (i : Nat) (h : lw_privs_3[i]? = some q) : Cond.selects q.1.cls q.1 q.1 ∈ TB := List.mem_filter.mpr ⟨List.mem_append_left _ (List.mem_map.mpr ⟨q, show q ∈ lw_privs from (List.mem_append_right _ (List.mem_append_right _ (List.mem_append_left _ (List.mem_of_getElem? h)))), rfl⟩), rfl⟩
theorem sp4 {q : MethodName × Nat} (i : Nat) (h : lw_privs_4[i]? = some q) : Cond.selects q.1.cls q.1 q.1 ∈ TB := List.mem_filter.mpr ⟨List.mem_append_left _ (List.mem_map.mpr ⟨q, show q ∈ lw_privs from (List.mem_append_right _ (List.mem_append_right _ (List.mem_append_right _ (List.mem_append_left _ (List.mem_of_getElem? h))))), rfl⟩), rfl⟩
theorem sp5 {q : MethodName × Nat} (i : Nat) (h : lw_privs_5[i]? = some q) : Cond.selects q.1.cls q.1 q.1 ∈ TB := List.mem_filter.mpr ⟨List.mem_append_left _ (List.mem_map.mpr ⟨q, show q ∈ lw_privs from (List.mem_append_right _ (List.mem_append_right _ (List.mem_append_right _ (List.mem_append_right _ (List.mem_of_getElem? h))))), rfl⟩), rfl⟩
abbrev b_Ga_init : ByteArray := prog_1_method_1_code
def y_Ga_init : MethodName := ⟨"ProofGate", "<init>", "(I)V"⟩
abbrev b_Jo_init : ByteArray := object_method_1_code
def y_Jo_init : MethodName := ⟨"java/lang/Object", "<init>", "()V"⟩
abbrev b_Cs_init : ByteArray := prog_5_method_1_code
def y_Cs_init : MethodName := ⟨"ProofGate$Credentials", "<init>", "()V"⟩
abbrev b_AL_init : ByteArray := prog_26_method_2_code
def y_AL_init : MethodName := ⟨"java/util/ArrayList", "<init>", "()V"⟩
abbrev b_Ab_init : ByteArray := prog_25_method_1_code
def y_Ab_init : MethodName := ⟨"java/util/AbstractList", "<init>", "()V"⟩
abbrev b_Ac_init : ByteArray := prog_24_method_1_code
def y_Ac_init : MethodName := ⟨"java/util/AbstractCollection", "<init>", "()V"⟩
abbrev b_Pf_init : ByteArray := prog_8_method_1_code
def y_Pf_init : MethodName := ⟨"ProofGate$Proof", "<init>", "()V"⟩
abbrev b_Pv_init : ByteArray := prog_9_method_1_code
def y_Pv_init : MethodName := ⟨"ProofGate$Prover", "<init>", "(LProofGate$Credentials;)V"⟩
abbrev b_Ck_init : ByteArray := prog_3_method_1_code
def y_Ck_init : MethodName := ⟨"ProofGate$Checker", "<init>", "(LProofGate$Credentials;)V"⟩
abbrev b_Fa_init : ByteArray := prog_6_method_1_code
def y_Fa_init : MethodName := ⟨"ProofGate$Fact", "<init>", "()V"⟩
abbrev b_Lg_init : ByteArray := prog_2_method_1_code
def y_Lg_init : MethodName := ⟨"ProofGate$AuditLog", "<init>", "()V"⟩
abbrev b_Fu_init : ByteArray := prog_7_method_1_code
def y_Fu_init : MethodName := ⟨"ProofGate$Fuse", "<init>", "()V"⟩
abbrev b_Ar_fill : ByteArray := prog_27_method_103_code
def y_Ar_fill : MethodName := ⟨"java/util/Arrays", "fill", "([II)V"⟩
abbrev b_Ga_seal : ByteArray := prog_1_method_2_code
def y_Ga_seal : MethodName := ⟨"ProofGate", "seal", "(IIIIIIII)I"⟩
abbrev b_Cr_init : ByteArray := prog_4_method_1_code
def y_Cr_init : MethodName := ⟨"ProofGate$Credential", "<init>", "(II[III)V"⟩
abbrev b_Cr_isKind : ByteArray := prog_4_method_2_code
def y_Cr_isKind : MethodName := ⟨"ProofGate$Credential", "isKind", "(I)Z"⟩
abbrev b_Cr_limit : ByteArray := prog_4_method_3_code
def y_Cr_limit : MethodName := ⟨"ProofGate$Credential", "limit", "(II)I"⟩
abbrev b_Ga_sealOf : ByteArray := prog_1_method_20_code
def y_Ga_sealOf : MethodName := ⟨"ProofGate", "sealOf", "(LProofGate$Credential;)I"⟩
abbrev b_Cr_mark : ByteArray := prog_4_method_6_code
def y_Cr_mark : MethodName := ⟨"ProofGate$Credential", "mark", "()I"⟩
abbrev b_Cr_mix : ByteArray := prog_4_method_7_code
def y_Cr_mix : MethodName := ⟨"ProofGate$Credential", "mix", "(II)I"⟩
abbrev b_Ga_set : ByteArray := prog_1_method_4_code
def y_Ga_set : MethodName := ⟨"ProofGate", "set", "(IIII)V"⟩
abbrev b_Ga_pass : ByteArray := prog_1_method_6_code
def y_Ga_pass : MethodName := ⟨"ProofGate", "pass", "(I)I"⟩
abbrev b_Cs_letTimeGoOn : ByteArray := prog_5_method_4_code
def y_Cs_letTimeGoOn : MethodName := ⟨"ProofGate$Credentials", "letTimeGoOn", "(I)I"⟩
abbrev b_Ga_step : ByteArray := prog_1_method_7_code
def y_Ga_step : MethodName := ⟨"ProofGate", "step", "(III)I"⟩
abbrev b_Pf_append : ByteArray := prog_8_method_7_code
def y_Pf_append : MethodName := ⟨"ProofGate$Proof", "append", "(III)I"⟩
abbrev b_Ga_clear : ByteArray := prog_1_method_8_code
def y_Ga_clear : MethodName := ⟨"ProofGate", "clear", "()I"⟩
abbrev b_Pf_makeEmpty : ByteArray := prog_8_method_8_code
def y_Pf_makeEmpty : MethodName := ⟨"ProofGate$Proof", "makeEmpty", "()I"⟩
abbrev b_Ga_steps : ByteArray := prog_1_method_9_code
def y_Ga_steps : MethodName := ⟨"ProofGate", "steps", "()I"⟩
abbrev b_Pf_length : ByteArray := prog_8_method_2_code
def y_Pf_length : MethodName := ⟨"ProofGate$Proof", "length", "()I"⟩
abbrev b_Ga_stepAt : ByteArray := prog_1_method_10_code
def y_Ga_stepAt : MethodName := ⟨"ProofGate", "stepAt", "(II)I"⟩
abbrev b_Pf_hasStep : ByteArray := prog_8_method_3_code
def y_Pf_hasStep : MethodName := ⟨"ProofGate$Proof", "hasStep", "(I)Z"⟩
abbrev b_Pf_ruleAt : ByteArray := prog_8_method_4_code
def y_Pf_ruleAt : MethodName := ⟨"ProofGate$Proof", "ruleAt", "(I)I"⟩
abbrev b_Pf_xAt : ByteArray := prog_8_method_5_code
def y_Pf_xAt : MethodName := ⟨"ProofGate$Proof", "xAt", "(I)I"⟩
abbrev b_Pf_yAt : ByteArray := prog_8_method_6_code
def y_Pf_yAt : MethodName := ⟨"ProofGate$Proof", "yAt", "(I)I"⟩
abbrev b_Ga_prove : ByteArray := prog_1_method_11_code
def y_Ga_prove : MethodName := ⟨"ProofGate", "prove", "(III)I"⟩
abbrev b_Ga_isNamed : ByteArray := prog_1_method_26_code
def y_Ga_isNamed : MethodName := ⟨"ProofGate", "isNamed", "(III)Z"⟩
abbrev b_Ga_isPrincipal : ByteArray := prog_1_method_27_code
def y_Ga_isPrincipal : MethodName := ⟨"ProofGate", "isPrincipal", "(I)Z"⟩
abbrev b_Ga_isObject : ByteArray := prog_1_method_28_code
def y_Ga_isObject : MethodName := ⟨"ProofGate", "isObject", "(I)Z"⟩
abbrev b_Ga_isOpenTo : ByteArray := prog_1_method_25_code
def y_Ga_isOpenTo : MethodName := ⟨"ProofGate", "isOpenTo", "(II)Z"⟩
abbrev b_Ga_sayerOfGoal : ByteArray := prog_1_method_24_code
def y_Ga_sayerOfGoal : MethodName := ⟨"ProofGate", "sayerOfGoal", "(II)I"⟩
abbrev b_Pv_writeProof : ByteArray := prog_9_method_3_code
def y_Pv_writeProof : MethodName := ⟨"ProofGate$Prover", "writeProof", "(IIII)I"⟩
abbrev b_Pv_may : ByteArray := prog_9_method_22_code
def y_Pv_may : MethodName := ⟨"ProofGate$Prover", "may", "(III)I"⟩
abbrev b_Pv_finds : ByteArray := prog_9_method_4_code
def y_Pv_finds : MethodName := ⟨"ProofGate$Prover", "finds", "(II)Z"⟩
abbrev b_Pv_findWhatIsSaid : ByteArray := prog_9_method_6_code
def y_Pv_findWhatIsSaid : MethodName := ⟨"ProofGate$Prover", "findWhatIsSaid", "(I)V"⟩
abbrev b_Cs_count : ByteArray := prog_5_method_2_code
def y_Cs_count : MethodName := ⟨"ProofGate$Credentials", "count", "()I"⟩
abbrev b_AL_size : ByteArray := prog_26_method_8_code
def y_AL_size : MethodName := ⟨"java/util/ArrayList", "size", "()I"⟩
abbrev b_Cs_findValid : ByteArray := prog_5_method_6_code
def y_Cs_findValid : MethodName := ⟨"ProofGate$Credentials", "findValid", "(I)LProofGate$Credential;"⟩
abbrev b_Cs_find : ByteArray := prog_5_method_5_code
def y_Cs_find : MethodName := ⟨"ProofGate$Credentials", "find", "(I)LProofGate$Credential;"⟩
abbrev b_AL_get : ByteArray := prog_26_method_20_code
def y_AL_get : MethodName := ⟨"java/util/ArrayList", "get", "(I)Ljava/lang/Object;"⟩
abbrev b_Ob_checkIndex : ByteArray := prog_31_method_17_code
def y_Ob_checkIndex : MethodName := ⟨"java/util/Objects", "checkIndex", "(II)I"⟩
abbrev b_Pr_checkIndex : ByteArray := prog_35_method_11_code
def y_Pr_checkIndex : MethodName := ⟨"jdk/internal/util/Preconditions", "checkIndex", "(IILjava/util/function/BiFunction;)I"⟩
abbrev b_AL_elementData : ByteArray := prog_26_method_18_code
def y_AL_elementData : MethodName := ⟨"java/util/ArrayList", "elementData", "(I)Ljava/lang/Object;"⟩
abbrev b_Cr_isValidAt : ByteArray := prog_4_method_5_code
def y_Cr_isValidAt : MethodName := ⟨"ProofGate$Credential", "isValidAt", "(I)Z"⟩
abbrev b_Pv_factSaidBy : ByteArray := prog_9_method_7_code
def y_Pv_factSaidBy : MethodName := ⟨"ProofGate$Prover", "factSaidBy", "(LProofGate$Credential;I)I"⟩
abbrev b_Pv_speaks : ByteArray := prog_9_method_21_code
def y_Pv_speaks : MethodName := ⟨"ProofGate$Prover", "speaks", "(II)I"⟩
abbrev b_Pv_trusts : ByteArray := prog_9_method_23_code
def y_Pv_trusts : MethodName := ⟨"ProofGate$Prover", "trusts", "(IIII)I"⟩
abbrev b_Pv_reach : ByteArray := prog_9_method_18_code
def y_Pv_reach : MethodName := ⟨"ProofGate$Prover", "reach", "(IIII)V"⟩
abbrev b_Pv_findWhatFollows : ByteArray := prog_9_method_5_code
def y_Pv_findWhatFollows : MethodName := ⟨"ProofGate$Prover", "findWhatFollows", "()V"⟩
abbrev b_Pv_findMayByVoice : ByteArray := prog_9_method_8_code
def y_Pv_findMayByVoice : MethodName := ⟨"ProofGate$Prover", "findMayByVoice", "()V"⟩
abbrev b_Pv_isKnown : ByteArray := prog_9_method_19_code
def y_Pv_isKnown : MethodName := ⟨"ProofGate$Prover", "isKnown", "(I)Z"⟩
abbrev b_Pv_handOnMay : ByteArray := prog_9_method_10_code
def y_Pv_handOnMay : MethodName := ⟨"ProofGate$Prover", "handOnMay", "(IIIII)V"⟩
abbrev b_Pv_findMayByTrust : ByteArray := prog_9_method_9_code
def y_Pv_findMayByTrust : MethodName := ⟨"ProofGate$Prover", "findMayByTrust", "()V"⟩
abbrev b_Pv_findTrustByTrust : ByteArray := prog_9_method_11_code
def y_Pv_findTrustByTrust : MethodName := ⟨"ProofGate$Prover", "findTrustByTrust", "()V"⟩
abbrev b_Pv_handOnTrust : ByteArray := prog_9_method_13_code
def y_Pv_handOnTrust : MethodName := ⟨"ProofGate$Prover", "handOnTrust", "(IIIIII)V"⟩
abbrev b_Ma_min : ByteArray := prog_18_method_69_code
def y_Ma_min : MethodName := ⟨"java/lang/Math", "min", "(II)I"⟩
abbrev b_Pv_findTrustByVoice : ByteArray := prog_9_method_12_code
def y_Pv_findTrustByVoice : MethodName := ⟨"ProofGate$Prover", "findTrustByVoice", "()V"⟩
abbrev b_Pv_findVoiceByVoice : ByteArray := prog_9_method_14_code
def y_Pv_findVoiceByVoice : MethodName := ⟨"ProofGate$Prover", "findVoiceByVoice", "()V"⟩
abbrev b_Pv_handOnVoice : ByteArray := prog_9_method_15_code
def y_Pv_handOnVoice : MethodName := ⟨"ProofGate$Prover", "handOnVoice", "(II)V"⟩
abbrev b_Pv_findImplied : ByteArray := prog_9_method_16_code
def y_Pv_findImplied : MethodName := ⟨"ProofGate$Prover", "findImplied", "()V"⟩
abbrev b_Pv_applyImply : ByteArray := prog_9_method_17_code
def y_Pv_applyImply : MethodName := ⟨"ProofGate$Prover", "applyImply", "(IIII)V"⟩
abbrev b_Pv_writesStep : ByteArray := prog_9_method_20_code
def y_Pv_writesStep : MethodName := ⟨"ProofGate$Prover", "writesStep", "(II)Z"⟩
abbrev b_Pv_written : ByteArray := prog_9_method_2_code
def y_Pv_written : MethodName := ⟨"ProofGate$Prover", "written", "()LProofGate$Proof;"⟩
abbrev b_Pf_become : ByteArray := prog_8_method_9_code
def y_Pf_become : MethodName := ⟨"ProofGate$Proof", "become", "(LProofGate$Proof;)V"⟩
abbrev b_Ga_check : ByteArray := prog_1_method_12_code
def y_Ga_check : MethodName := ⟨"ProofGate", "check", "(III)Z"⟩
abbrev b_Ck_accepts : ByteArray := prog_3_method_2_code
def y_Ck_accepts : MethodName := ⟨"ProofGate$Checker", "accepts", "(LProofGate$Proof;IIII)Z"⟩
abbrev b_Ck_follows : ByteArray := prog_3_method_3_code
def y_Ck_follows : MethodName := ⟨"ProofGate$Checker", "follows", "(IIII)Z"⟩
abbrev b_Ck_isSaid : ByteArray := prog_3_method_4_code
def y_Ck_isSaid : MethodName := ⟨"ProofGate$Checker", "isSaid", "(LProofGate$Credential;LProofGate$Fact;)Z"⟩
abbrev b_Fa_becomeSaidBy : ByteArray := prog_6_method_2_code
def y_Fa_becomeSaidBy : MethodName := ⟨"ProofGate$Fact", "becomeSaidBy", "(LProofGate$Credential;)V"⟩
abbrev b_Ck_isImplied : ByteArray := prog_3_method_5_code
def y_Ck_isImplied : MethodName := ⟨"ProofGate$Checker", "isImplied", "(LProofGate$Credential;LProofGate$Fact;LProofGate$Fact;)Z"⟩
abbrev b_Fa_become : ByteArray := prog_6_method_3_code
def y_Fa_become : MethodName := ⟨"ProofGate$Fact", "become", "(LProofGate$Fact;)V"⟩
abbrev b_Ck_isJoined : ByteArray := prog_3_method_6_code
def y_Ck_isJoined : MethodName := ⟨"ProofGate$Checker", "isJoined", "(ILProofGate$Fact;LProofGate$Fact;LProofGate$Fact;)Z"⟩
abbrev b_Ck_isHandedOn : ByteArray := prog_3_method_8_code
def y_Ck_isHandedOn : MethodName := ⟨"ProofGate$Checker", "isHandedOn", "(LProofGate$Fact;LProofGate$Fact;LProofGate$Fact;)Z"⟩
abbrev b_Fa_isOfSameThing : ByteArray := prog_6_method_5_code
def y_Fa_isOfSameThing : MethodName := ⟨"ProofGate$Fact", "isOfSameThing", "(LProofGate$Fact;)Z"⟩
abbrev b_Ck_isTrustedDeeper : ByteArray := prog_3_method_7_code
def y_Ck_isTrustedDeeper : MethodName := ⟨"ProofGate$Checker", "isTrustedDeeper", "(LProofGate$Fact;LProofGate$Fact;LProofGate$Fact;)Z"⟩
abbrev b_Fa_isMay : ByteArray := prog_6_method_4_code
def y_Fa_isMay : MethodName := ⟨"ProofGate$Fact", "isMay", "(IIII)Z"⟩
abbrev b_Ga_fuse : ByteArray := prog_1_method_14_code
def y_Ga_fuse : MethodName := ⟨"ProofGate", "fuse", "(I)Z"⟩
abbrev b_Fu_light : ByteArray := prog_7_method_2_code
def y_Fu_light : MethodName := ⟨"ProofGate$Fuse", "light", "(I)V"⟩
abbrev b_Ga_owner : ByteArray := prog_1_method_15_code
def y_Ga_owner : MethodName := ⟨"ProofGate", "owner", "(I)I"⟩
abbrev b_Ga_credentials : ByteArray := prog_1_method_16_code
def y_Ga_credentials : MethodName := ⟨"ProofGate", "credentials", "()I"⟩
abbrev b_Ga_valid : ByteArray := prog_1_method_17_code
def y_Ga_valid : MethodName := ⟨"ProofGate", "valid", "(I)Z"⟩
abbrev b_Ga_grants : ByteArray := prog_1_method_18_code
def y_Ga_grants : MethodName := ⟨"ProofGate", "grants", "()I"⟩
abbrev b_Lg_count : ByteArray := prog_2_method_2_code
def y_Lg_count : MethodName := ⟨"ProofGate$AuditLog", "count", "()I"⟩
abbrev b_Ga_chain : ByteArray := prog_1_method_19_code
def y_Ga_chain : MethodName := ⟨"ProofGate", "chain", "()I"⟩
abbrev b_Lg_link : ByteArray := prog_2_method_3_code
def y_Lg_link : MethodName := ⟨"ProofGate$AuditLog", "link", "()I"⟩
abbrev b_Lw_cell : ByteArray := method_2_code
def y_Lw_cell : MethodName := ⟨"ProofGateLaw", "cell", "([II)I"⟩
abbrev b_Lw_submit : ByteArray := method_3_code
def y_Lw_submit : MethodName := ⟨"ProofGateLaw", "submit", "(LProofGate;IIIII[J)I"⟩
abbrev b_Ga_submit : ByteArray := prog_1_method_3_code
def y_Ga_submit : MethodName := ⟨"ProofGate", "submit", "(IIIII)I"⟩
abbrev b_Cr_isWellFormed : ByteArray := prog_4_method_4_code
def y_Cr_isWellFormed : MethodName := ⟨"ProofGate$Credential", "isWellFormed", "()Z"⟩
abbrev b_Ga_writeRecord : ByteArray := prog_1_method_21_code
def y_Ga_writeRecord : MethodName := ⟨"ProofGate", "writeRecord", "()V"⟩
abbrev b_Fu_burnsThrough : ByteArray := prog_7_method_3_code
def y_Fu_burnsThrough : MethodName := ⟨"ProofGate$Fuse", "burnsThrough", "()Z"⟩
abbrev b_Cs_take : ByteArray := prog_5_method_3_code
def y_Cs_take : MethodName := ⟨"ProofGate$Credentials", "take", "(LProofGate$Credential;)I"⟩
abbrev b_AL_add : ByteArray := prog_26_method_25_code
def y_AL_add : MethodName := ⟨"java/util/ArrayList", "add", "(Ljava/lang/Object;)Z"⟩
abbrev b_AL_add2 : ByteArray := prog_26_method_24_code
def y_AL_add2 : MethodName := ⟨"java/util/ArrayList", "add", "(Ljava/lang/Object;[Ljava/lang/Object;I)V"⟩
abbrev b_AL_grow : ByteArray := prog_26_method_7_code
def y_AL_grow : MethodName := ⟨"java/util/ArrayList", "grow", "()[Ljava/lang/Object;"⟩
abbrev b_AL_grow2 : ByteArray := prog_26_method_6_code
def y_AL_grow2 : MethodName := ⟨"java/util/ArrayList", "grow", "(I)[Ljava/lang/Object;"⟩
abbrev b_As_newLength : ByteArray := prog_34_method_27_code
def y_As_newLength : MethodName := ⟨"jdk/internal/util/ArraysSupport", "newLength", "(III)I"⟩
abbrev b_Ma_max : ByteArray := prog_18_method_65_code
def y_Ma_max : MethodName := ⟨"java/lang/Math", "max", "(II)I"⟩
abbrev b_As_hugeLength : ByteArray := prog_34_method_28_code
def y_As_hugeLength : MethodName := ⟨"jdk/internal/util/ArraysSupport", "hugeLength", "(II)I"⟩
abbrev b_Ar_copyOf : ByteArray := prog_27_method_119_code
def y_Ar_copyOf : MethodName := ⟨"java/util/Arrays", "copyOf", "([Ljava/lang/Object;I)[Ljava/lang/Object;"⟩
abbrev b_Ar_copyOf2 : ByteArray := prog_27_method_120_code
def y_Ar_copyOf2 : MethodName := ⟨"java/util/Arrays", "copyOf", "([Ljava/lang/Object;ILjava/lang/Class;)[Ljava/lang/Object;"⟩
abbrev b_Lw_revoke : ByteArray := method_4_code
def y_Lw_revoke : MethodName := ⟨"ProofGateLaw", "revoke", "(LProofGate;II[J)I"⟩
abbrev b_Ga_revoke : ByteArray := prog_1_method_5_code
def y_Ga_revoke : MethodName := ⟨"ProofGate", "revoke", "(II)Z"⟩
abbrev b_Lw_request : ByteArray := method_5_code
def y_Lw_request : MethodName := ⟨"ProofGateLaw", "request", "(LProofGate;IIIIZ[J)I"⟩
abbrev b_Ga_request : ByteArray := prog_1_method_13_code
def y_Ga_request : MethodName := ⟨"ProofGate", "request", "(IIIIZ)I"⟩
abbrev b_Ga_useUpDraft : ByteArray := prog_1_method_22_code
def y_Ga_useUpDraft : MethodName := ⟨"ProofGate", "useUpDraft", "(III)I"⟩
abbrev b_Lg_addGrant : ByteArray := prog_2_method_4_code
def y_Lg_addGrant : MethodName := ⟨"ProofGate$AuditLog", "addGrant", "(IIII)V"⟩
abbrev b_Ga_carryOut : ByteArray := prog_1_method_23_code
def y_Ga_carryOut : MethodName := ⟨"ProofGate", "carryOut", "(IIII)I"⟩
abbrev b_Mo_init : ByteArray := prog_11_method_1_code
def y_Mo_init : MethodName := ⟨"ProofGateModel", "<init>", "(I)V"⟩
abbrev b_Mo_thrown : ByteArray := prog_11_method_2_code
def y_Mo_thrown : MethodName := ⟨"ProofGateModel", "thrown", "()I"⟩
abbrev b_Mo_fuse : ByteArray := prog_11_method_6_code
def y_Mo_fuse : MethodName := ⟨"ProofGateModel", "fuse", "(I)Z"⟩
abbrev b_Mo_in : ByteArray := prog_11_method_4_code
def y_Mo_in : MethodName := ⟨"ProofGateModel", "in", "(III)Z"⟩
abbrev b_Mo_seal : ByteArray := prog_11_method_8_code
def y_Mo_seal : MethodName := ⟨"ProofGateModel", "seal", "(IIIIIIII)I"⟩
abbrev b_Mo_mix : ByteArray := prog_11_method_7_code
def y_Mo_mix : MethodName := ⟨"ProofGateModel", "mix", "(II)I"⟩
abbrev b_Mo_set : ByteArray := prog_11_method_9_code
def y_Mo_set : MethodName := ⟨"ProofGateModel", "set", "(IIII)V"⟩
abbrev b_Mo_submit : ByteArray := prog_11_method_13_code
def y_Mo_submit : MethodName := ⟨"ProofGateModel", "submit", "(IIIII)I"⟩
abbrev b_Mo_isPerson : ByteArray := prog_11_method_10_code
def y_Mo_isPerson : MethodName := ⟨"ProofGateModel", "isPerson", "(I)Z"⟩
abbrev b_Mo_isFit : ByteArray := prog_11_method_12_code
def y_Mo_isFit : MethodName := ⟨"ProofGateModel", "isFit", "(I)Z"⟩
abbrev b_Mo_isRight : ByteArray := prog_11_method_11_code
def y_Mo_isRight : MethodName := ⟨"ProofGateModel", "isRight", "(I)Z"⟩
abbrev b_Mo_fails : ByteArray := prog_11_method_3_code
def y_Mo_fails : MethodName := ⟨"ProofGateModel", "fails", "(I)I"⟩
abbrev b_Mo_recorded : ByteArray := prog_11_method_5_code
def y_Mo_recorded : MethodName := ⟨"ProofGateModel", "recorded", "()Z"⟩
abbrev b_Mo_revoke : ByteArray := prog_11_method_14_code
def y_Mo_revoke : MethodName := ⟨"ProofGateModel", "revoke", "(II)Z"⟩
abbrev b_Mo_step : ByteArray := prog_11_method_35_code
def y_Mo_step : MethodName := ⟨"ProofGateModel", "step", "(III)I"⟩
abbrev b_Mo_clear : ByteArray := prog_11_method_36_code
def y_Mo_clear : MethodName := ⟨"ProofGateModel", "clear", "()I"⟩
abbrev b_Mo_steps : ByteArray := prog_11_method_37_code
def y_Mo_steps : MethodName := ⟨"ProofGateModel", "steps", "()I"⟩
abbrev b_Mo_stepAt : ByteArray := prog_11_method_38_code
def y_Mo_stepAt : MethodName := ⟨"ProofGateModel", "stepAt", "(II)I"⟩
abbrev b_Mo_prove : ByteArray := prog_11_method_41_code
def y_Mo_prove : MethodName := ⟨"ProofGateModel", "prove", "(III)I"⟩
abbrev b_Mo_isGoal : ByteArray := prog_11_method_39_code
def y_Mo_isGoal : MethodName := ⟨"ProofGateModel", "isGoal", "(III)Z"⟩
abbrev b_Mo_sayer : ByteArray := prog_11_method_40_code
def y_Mo_sayer : MethodName := ⟨"ProofGateModel", "sayer", "(II)I"⟩
abbrev b_Mo_may : ByteArray := prog_11_method_16_code
def y_Mo_may : MethodName := ⟨"ProofGateModel", "may", "(III)I"⟩
abbrev b_Mo_proof : ByteArray := prog_11_method_26_code
def y_Mo_proof : MethodName := ⟨"ProofGateModel", "proof", "(II)I"⟩
abbrev b_Mo_said : ByteArray := prog_11_method_21_code
def y_Mo_said : MethodName := ⟨"ProofGateModel", "said", "()V"⟩
abbrev b_Mo_holds : ByteArray := prog_11_method_15_code
def y_Mo_holds : MethodName := ⟨"ProofGateModel", "holds", "(I)Z"⟩
abbrev b_Mo_speaks : ByteArray := prog_11_method_17_code
def y_Mo_speaks : MethodName := ⟨"ProofGateModel", "speaks", "(II)I"⟩
abbrev b_Mo_trusts : ByteArray := prog_11_method_18_code
def y_Mo_trusts : MethodName := ⟨"ProofGateModel", "trusts", "(IIII)I"⟩
abbrev b_Mo_finds : ByteArray := prog_11_method_20_code
def y_Mo_finds : MethodName := ⟨"ProofGateModel", "finds", "(IIII)Z"⟩
abbrev b_Mo_goesOn : ByteArray := prog_11_method_25_code
def y_Mo_goesOn : MethodName := ⟨"ProofGateModel", "goesOn", "()Z"⟩
abbrev b_Mo_newMay : ByteArray := prog_11_method_22_code
def y_Mo_newMay : MethodName := ⟨"ProofGateModel", "newMay", "(III)Z"⟩
abbrev b_Mo_had : ByteArray := prog_11_method_19_code
def y_Mo_had : MethodName := ⟨"ProofGateModel", "had", "(I)Z"⟩
abbrev b_Mo_newTrust : ByteArray := prog_11_method_23_code
def y_Mo_newTrust : MethodName := ⟨"ProofGateModel", "newTrust", "(IIII)Z"⟩
abbrev b_Mo_newVoice : ByteArray := prog_11_method_24_code
def y_Mo_newVoice : MethodName := ⟨"ProofGateModel", "newVoice", "(II)Z"⟩
abbrev b_Mo_needed : ByteArray := prog_11_method_27_code
def y_Mo_needed : MethodName := ⟨"ProofGateModel", "needed", "(I)I"⟩
abbrev b_Mo_note : ByteArray := prog_11_method_28_code
def y_Mo_note : MethodName := ⟨"ProofGateModel", "note", "(I)V"⟩
abbrev b_Mo_check : ByteArray := prog_11_method_42_code
def y_Mo_check : MethodName := ⟨"ProofGateModel", "check", "(III)Z"⟩
abbrev b_Mo_proves : ByteArray := prog_11_method_34_code
def y_Mo_proves : MethodName := ⟨"ProofGateModel", "proves", "(IIII)Z"⟩
abbrev b_Mo_proved : ByteArray := prog_11_method_32_code
def y_Mo_proved : MethodName := ⟨"ProofGateModel", "proved", "(I)I"⟩
abbrev b_Mo_spoken : ByteArray := prog_11_method_33_code
def y_Mo_spoken : MethodName := ⟨"ProofGateModel", "spoken", "(I)I"⟩
abbrev b_Mo_fact : ByteArray := prog_11_method_29_code
def y_Mo_fact : MethodName := ⟨"ProofGateModel", "fact", "(IIIIII)I"⟩
abbrev b_Mo_stepFact : ByteArray := prog_11_method_31_code
def y_Mo_stepFact : MethodName := ⟨"ProofGateModel", "stepFact", "(II)I"⟩
abbrev b_Mo_item : ByteArray := prog_11_method_30_code
def y_Mo_item : MethodName := ⟨"ProofGateModel", "item", "(II)I"⟩
abbrev b_Mo_request : ByteArray := prog_11_method_43_code
def y_Mo_request : MethodName := ⟨"ProofGateModel", "request", "(IIIIZ)I"⟩
abbrev b_Mo_done : ByteArray := prog_11_method_44_code
def y_Mo_done : MethodName := ⟨"ProofGateModel", "done", "(IIII)I"⟩
abbrev b_Mo_pass : ByteArray := prog_11_method_45_code
def y_Mo_pass : MethodName := ⟨"ProofGateModel", "pass", "(I)I"⟩
abbrev b_Mo_owner : ByteArray := prog_11_method_46_code
def y_Mo_owner : MethodName := ⟨"ProofGateModel", "owner", "(I)I"⟩
abbrev b_Mo_credentials : ByteArray := prog_11_method_47_code
def y_Mo_credentials : MethodName := ⟨"ProofGateModel", "credentials", "()I"⟩
abbrev b_Mo_valid : ByteArray := prog_11_method_48_code
def y_Mo_valid : MethodName := ⟨"ProofGateModel", "valid", "(I)Z"⟩
abbrev b_Mo_grants : ByteArray := prog_11_method_49_code
def y_Mo_grants : MethodName := ⟨"ProofGateModel", "grants", "()I"⟩
abbrev b_Mo_chain : ByteArray := prog_11_method_50_code
def y_Mo_chain : MethodName := ⟨"ProofGateModel", "chain", "()I"⟩
def T_AL : u_T := fun k => match k with
  | 0 => ("java/util/ArrayList", "elementData", "[Ljava/lang/Object;", false)
  | 1 => ("java/util/ArrayList", "size", "I", false)
  | _ => ("java/util/AbstractList", "modCount", "I", false)
def t_AL : Nat → FieldType := fun k => match k with
  | 0 => .array (.object "java/lang/Object")
  | 1 => .int
  | _ => .int
def T_Lg : u_T := fun k => match k with
  | 0 => ("ProofGate$AuditLog", "count", "I", false)
  | _ => ("ProofGate$AuditLog", "link", "I", false)
def t_Lg : Nat → FieldType := fun k => match k with
  | 0 => .int
  | _ => .int
def T_Ck : u_T := fun k => match k with
  | 0 => ("ProofGate$Checker", "held", "LProofGate$Credentials;", true)
  | _ => ("ProofGate$Checker", "facts", "[LProofGate$Fact;", true)
def t_Ck : Nat → FieldType := fun k => match k with
  | 0 => .object "ProofGate$Credentials"
  | _ => .array (.object "ProofGate$Fact")
def T_Cr : u_T := fun k => match k with
  | 0 => ("ProofGate$Credential", "issuer", "I", true)
  | 1 => ("ProofGate$Credential", "kind", "I", true)
  | 2 => ("ProofGate$Credential", "numbers", "[I", true)
  | 3 => ("ProofGate$Credential", "first", "I", true)
  | 4 => ("ProofGate$Credential", "last", "I", true)
  | _ => ("ProofGate$Credential", "revoked", "Z", false)
def t_Cr : Nat → FieldType := fun k => match k with
  | 0 => .int
  | 1 => .int
  | 2 => .array (.int)
  | 3 => .int
  | 4 => .int
  | _ => .boolean
def T_Cs : u_T := fun k => match k with
  | 0 => ("ProofGate$Credentials", "taken", "Ljava/util/ArrayList;", true)
  | _ => ("ProofGate$Credentials", "time", "I", false)
def t_Cs : Nat → FieldType := fun k => match k with
  | 0 => .object "java/util/ArrayList"
  | _ => .int
def T_Fa : u_T := fun k => match k with
  | 0 => ("ProofGate$Fact", "kind", "I", false)
  | 1 => ("ProofGate$Fact", "of", "I", false)
  | 2 => ("ProofGate$Fact", "to", "I", false)
  | 3 => ("ProofGate$Fact", "right", "I", false)
  | 4 => ("ProofGate$Fact", "object", "I", false)
  | _ => ("ProofGate$Fact", "depth", "I", false)
def t_Fa : Nat → FieldType := fun k => match k with
  | 0 => .int
  | 1 => .int
  | 2 => .int
  | 3 => .int
  | 4 => .int
  | _ => .int
def T_Fu : u_T := fun k => match k with
  | _ => ("ProofGate$Fuse", "left", "I", false)
def t_Fu : Nat → FieldType := fun k => match k with
  | _ => .int
def T_Pf : u_T := fun k => match k with
  | 0 => ("ProofGate$Proof", "rules", "[I", true)
  | 1 => ("ProofGate$Proof", "xs", "[I", true)
  | 2 => ("ProofGate$Proof", "ys", "[I", true)
  | _ => ("ProofGate$Proof", "length", "I", false)
def t_Pf : Nat → FieldType := fun k => match k with
  | 0 => .array (.int)
  | 1 => .array (.int)
  | 2 => .array (.int)
  | _ => .int
def T_Pv : u_T := fun k => match k with
  | 0 => ("ProofGate$Prover", "held", "LProofGate$Credentials;", true)
  | 1 => ("ProofGate$Prover", "written", "LProofGate$Proof;", true)
  | 2 => ("ProofGate$Prover", "roundOf", "[I", true)
  | 3 => ("ProofGate$Prover", "ruleOf", "[I", true)
  | 4 => ("ProofGate$Prover", "firstOf", "[I", true)
  | 5 => ("ProofGate$Prover", "secondOf", "[I", true)
  | 6 => ("ProofGate$Prover", "stepOf", "[I", true)
  | 7 => ("ProofGate$Prover", "round", "I", false)
  | _ => ("ProofGate$Prover", "foundSome", "Z", false)
def t_Pv : Nat → FieldType := fun k => match k with
  | 0 => .object "ProofGate$Credentials"
  | 1 => .object "ProofGate$Proof"
  | 2 => .array (.int)
  | 3 => .array (.int)
  | 4 => .array (.int)
  | 5 => .array (.int)
  | 6 => .array (.int)
  | 7 => .int
  | _ => .boolean
def T_Ga : u_T := fun k => match k with
  | 0 => ("ProofGate", "secret", "I", true)
  | 1 => ("ProofGate", "numbers", "[I", true)
  | 2 => ("ProofGate", "held", "LProofGate$Credentials;", true)
  | 3 => ("ProofGate", "draft", "LProofGate$Proof;", true)
  | 4 => ("ProofGate", "prover", "LProofGate$Prover;", true)
  | 5 => ("ProofGate", "checker", "LProofGate$Checker;", true)
  | 6 => ("ProofGate", "log", "LProofGate$AuditLog;", true)
  | 7 => ("ProofGate", "wire", "LProofGate$Fuse;", true)
  | 8 => ("ProofGate", "owners", "[I", true)
  | _ => ("ProofGate", "values", "[I", true)
def t_Ga : Nat → FieldType := fun k => match k with
  | 0 => .int
  | 1 => .array (.int)
  | 2 => .object "ProofGate$Credentials"
  | 3 => .object "ProofGate$Proof"
  | 4 => .object "ProofGate$Prover"
  | 5 => .object "ProofGate$Checker"
  | 6 => .object "ProofGate$AuditLog"
  | 7 => .object "ProofGate$Fuse"
  | 8 => .array (.int)
  | _ => .array (.int)
def T_Mo : u_T := fun k => match k with
  | 0 => ("ProofGateModel", "secret", "I", true)
  | 1 => ("ProofGateModel", "time", "I", false)
  | 2 => ("ProofGateModel", "fault", "I", false)
  | 3 => ("ProofGateModel", "lit", "Z", false)
  | 4 => ("ProofGateModel", "left", "I", false)
  | 5 => ("ProofGateModel", "there", "[Z", true)
  | 6 => ("ProofGateModel", "owner", "[I", true)
  | 7 => ("ProofGateModel", "value", "[I", true)
  | 8 => ("ProofGateModel", "grants", "I", false)
  | 9 => ("ProofGateModel", "chain", "I", false)
  | 10 => ("ProofGateModel", "credentials", "I", false)
  | 11 => ("ProofGateModel", "issuer", "[I", true)
  | 12 => ("ProofGateModel", "kind", "[I", true)
  | 13 => ("ProofGateModel", "one", "[I", true)
  | 14 => ("ProofGateModel", "two", "[I", true)
  | 15 => ("ProofGateModel", "three", "[I", true)
  | 16 => ("ProofGateModel", "four", "[I", true)
  | 17 => ("ProofGateModel", "first", "[I", true)
  | 18 => ("ProofGateModel", "last", "[I", true)
  | 19 => ("ProofGateModel", "revoked", "[Z", true)
  | 20 => ("ProofGateModel", "given", "[I", true)
  | 21 => ("ProofGateModel", "drafted", "I", false)
  | 22 => ("ProofGateModel", "made", "I", false)
  | 23 => ("ProofGateModel", "rule", "[I", true)
  | 24 => ("ProofGateModel", "left1", "[I", true)
  | 25 => ("ProofGateModel", "left2", "[I", true)
  | 26 => ("ProofGateModel", "facts", "[I", true)
  | 27 => ("ProofGateModel", "madeRule", "[I", true)
  | 28 => ("ProofGateModel", "madeX", "[I", true)
  | 29 => ("ProofGateModel", "madeY", "[I", true)
  | 30 => ("ProofGateModel", "round", "[I", true)
  | 31 => ("ProofGateModel", "by", "[I", true)
  | 32 => ("ProofGateModel", "from", "[I", true)
  | 33 => ("ProofGateModel", "with", "[I", true)
  | 34 => ("ProofGateModel", "place", "[I", true)
  | 35 => ("ProofGateModel", "stack", "[I", true)
  | 36 => ("ProofGateModel", "now", "I", false)
  | _ => ("ProofGateModel", "about", "I", false)
def t_Mo : Nat → FieldType := fun k => match k with
  | 0 => .int
  | 1 => .int
  | 2 => .int
  | 3 => .boolean
  | 4 => .int
  | 5 => .array (.boolean)
  | 6 => .array (.int)
  | 7 => .array (.int)
  | 8 => .int
  | 9 => .int
  | 10 => .int
  | 11 => .array (.int)
  | 12 => .array (.int)
  | 13 => .array (.int)
  | 14 => .array (.int)
  | 15 => .array (.int)
  | 16 => .array (.int)
  | 17 => .array (.int)
  | 18 => .array (.int)
  | 19 => .array (.boolean)
  | 20 => .array (.int)
  | 21 => .int
  | 22 => .int
  | 23 => .array (.int)
  | 24 => .array (.int)
  | 25 => .array (.int)
  | 26 => .array (.int)
  | 27 => .array (.int)
  | 28 => .array (.int)
  | 29 => .array (.int)
  | 30 => .array (.int)
  | 31 => .array (.int)
  | 32 => .array (.int)
  | 33 => .array (.int)
  | 34 => .array (.int)
  | 35 => .array (.int)
  | 36 => .int
  | _ => .int
abbrev vwCl : List vw_C := [("java/util/ArrayList", T_AL, 3), ("ProofGate$AuditLog", T_Lg, 2), ("ProofGate$Checker", T_Ck, 2), ("ProofGate$Credential", T_Cr, 6), ("ProofGate$Credentials", T_Cs, 2), ("ProofGate$Fact", T_Fa, 6), ("ProofGate$Fuse", T_Fu, 1), ("ProofGate$Proof", T_Pf, 4), ("ProofGate$Prover", T_Pv, 9), ("ProofGate", T_Ga, 10), ("ProofGateModel", T_Mo, 38)]
end
section
/-! The memory that class and reference run in, by places of our own: L says what lies at a place (an array's kind and length, an object's class and its references), M says the ints that lie in it; 'r' carries places to addresses. V: the machine's frame over such a memory comes to its end. -/
abbrev gK : Type := (Nat × Nat × Option (Option (Nat → Option Nat))) ⊕ (Nat × List (Option Value))
abbrev gLy : Type := Nat → Option gK
abbrev gMe : Type := Nat → Nat → Int32
/-- what stays: the classes' numbers and slots, the arrays' classes, the base, the heap below it, the given tables' addresses, what else is known of a state -/
abbrev gG : Type := va_G × (Nat → ClassId) × Nat × Heap × (Nat → Nat) × (State → Prop)
def gV (r : Nat → Nat) (v : Value) : Value := match v with
  | .ref a => .ref (r a)
  | w => w
theorem gV_cat (r : Nat → Nat) (v : Value) : (gV r v).category = v.category := by cases v <;> rfl
theorem gV_eq {r r' : Nat → Nat} {v : Value} (h : ∀ a, v = .ref a → r' a = r a) : gV r' v = gV r v := by
  cases v <;> first | rfl | exact congrArg Value.ref (h _ rfl)
def gO (r : Nat → Nat) (x : Int32) (o : Option Value) : Value := match o with
  | none => .int x
  | some v => gV r v
def gF (r : Nat → Nat) (u : Nat → Int32) (fs : List (Option Value)) : List Value := fs.mapIdx (fun k o => gO r (u k) o)
theorem gF_at (r : Nat → Nat) (u : Nat → Int32) (fs : List (Option Value)) (k : Nat) : (gF r u fs)[k]? = (fs[k]?).map (fun o => gO r (u k) o) := by
  simp [gF]
theorem gF_len (r : Nat → Nat) (u : Nat → Int32) (fs : List (Option Value)) : (gF r u fs).length = fs.length := by simp [gF]
theorem gF_seti (r : Nat → Nat) (u : Nat → Int32) {fs : List (Option Value)} {k : Nat} (x : Int32) (h : fs[k]? = some none) : (gF r u fs).set k (.int x) = gF r (upd u k x) fs := by
  apply List.ext_getElem?
  intro j
  have hk : k < fs.length := (List.getElem?_eq_some_iff.mp h).1
  by_cases hj : j = k
  · subst hj
    rw [List.getElem?_set_self (by rw [gF_len]; exact hk), gF_at, h]
    simp [gO, upd]
  · rw [List.getElem?_set_ne (Ne.symm hj), gF_at, gF_at]
    simp [upd, hj]
theorem gF_setr (r : Nat → Nat) (u : Nat → Int32) {fs : List (Option Value)} {k : Nat} (v : Value) (hk : k < fs.length) : (gF r u fs).set k (gV r v) = gF r u (fs.set k (some v)) := by
  apply List.ext_getElem?
  intro j
  by_cases hj : j = k
  · subst hj
    rw [List.getElem?_set_self (by rw [gF_len]; exact hk), gF_at, List.getElem?_set_self hk]
    rfl
  · rw [List.getElem?_set_ne (Ne.symm hj), gF_at, gF_at, List.getElem?_set_ne (Ne.symm hj)]
def gE (dA : Nat → ClassId) (r : Nat → Nat) (k : gK) (u : Nat → Int32) : va_E := match k with
  | .inl (t, n, none) => .inl (dA t, n, .inl u)
  | .inl (t, n, some none) => .inl (dA t, n, .inr (.inl (fun j => (u j).toInt64)))
  | .inl (t, n, some (some f)) => .inl (dA t, n, .inr (.inr (.inr (.inr (fun j => (f j).map r)))))
  | .inr (ci, fs) => .inr (ci, gF r u fs)
/-- the places that a cell refers to -/
def gRf (k : gK) (b : Nat) : Prop := match k with
  | .inl (_, _, some (some f)) => ∃ j, f j = some b
  | .inr (_, fs) => some (Value.ref b) ∈ fs
  | _ => False
theorem gE_eq {dA : Nat → ClassId} {r r' : Nat → Nat} {k : gK} {u : Nat → Int32} (h : ∀ b, gRf k b → r' b = r b) : gE dA r' k u = gE dA r k u := by
  rcases k with ⟨t, n, _ | _ | f⟩ | ⟨ci, fs⟩
  · rfl
  · rfl
  · show Sum.inl _ = Sum.inl _
    have e : (fun j => (f j).map r') = (fun j => (f j).map r) := by
      funext j
      cases hf : f j with
      | none => rfl
      | some b => exact congrArg some (h b ⟨j, hf⟩)
    rw [e]
  · show Sum.inr _ = Sum.inr _
    have e : gF r' u fs = gF r u fs := by
      apply List.ext_getElem?
      intro j
      rw [gF_at, gF_at]
      cases hf : fs[j]? with
      | none => rfl
      | some o =>
        cases o with
        | none => rfl
        | some v =>
          show some _ = some _
          have : gV r' v = gV r v := gV_eq (fun a ha => h a (by subst ha; exact List.mem_of_getElem? hf))
          exact congrArg some this
    rw [e]
/-- the memory at its addresses in the heap; below the base nothing has changed -/
def gR (G : gG) (r : Nat → Nat) (L : gLy) (M : gMe) (H : Heap) : Prop :=
  (∀ a k, L a = some k → va_at G.1 vwCl (r a, gE G.2.1 r k (M a)) H ∧ G.2.2.1 ≤ r a ∧ 2 ≤ a) ∧ (∀ a b, L a ≠ none → L b ≠ none → r a = r b → a = b) ∧ (∀ a k, L a = some k → ∀ b, gRf k b → b < 2 ∨ L b ≠ none) ∧
  (∀ i, i < 2 → r i = G.2.2.2.2.1 i) ∧ G.2.2.1 ≤ H.size ∧ ∀ q : Nat, q < G.2.2.1 → H[q]? = G.2.2.2.1[q]?
/-- what is known of the tables in a state -/
abbrev tyL (dA : Nat → ClassId) : List (ClassId × FieldType) := [(dA 0, .int), (dA 1, .boolean), (dA 2, .long), (dA 3, .object "ProofGate$Fact"), (dA 4, .object "java/lang/Object")]
def gW (G : gG) (U : State) : Prop := (∀ w ∈ TB, va_Nw w U) ∧ (∀ w ∈ NB, va_Nw w U) ∧ va_K G.1 vwCl (tyL G.2.1) U ∧ G.2.2.2.2.2 U ∧ ∀ s U : State, s.WarmedH U.vm → G.2.2.2.2.2 s → G.2.2.2.2.2 U
theorem gW.moved {G : gG} {s U : State} (hW : s.WarmedH U.vm) (h : gW G s) : gW G U := by
  obtain ⟨h1, h2, h3, h4, h5⟩ := h
  refine ⟨fun w hw => ?_, fun w hw => NB_warm w hw hW (h2 w hw), va_K.moved hW.alike h3, h5 s U hW h4, h5⟩
  exact word_at hW (good_of_word (TB_good w hw)) (h1 w hw)
theorem gW.t {G : gG} {U : State} (h : gW G U) {w : Cond} (hw : w ∈ TB) {A : Array Value} : w.before A U = true := by
  rcases good_of_word (TB_good w hw) with hg | ⟨ty, rfl⟩
  · simp only [Bool.and_eq_true] at hg
    exact va_Nw.use hg.1 (h.1 w hw)
  · exact word_at (State.WarmedH.refl U) (Or.inr ⟨ty, rfl⟩) (h.1 _ hw)
/-- the locals -/
def gP (r : Nat → Nat) (lv : List (Option Value)) : List (Nat × Value) := (lv.mapIdx (fun i o => (i, o))).filterMap (fun q => q.2.map (fun v => (q.1, gV r v)))
theorem gP_mem {r : Nat → Nat} {lv : List (Option Value)} {q : Nat × Value} : q ∈ gP r lv ↔ ∃ v, lv[q.1]? = some (some v) ∧ q.2 = gV r v := by
  unfold gP
  rw [List.mem_filterMap]
  constructor
  · rintro ⟨⟨i, o⟩, h1, h2⟩
    obtain ⟨j, hj⟩ := List.getElem?_of_mem h1
    rw [List.getElem?_mapIdx] at hj
    cases ho : lv[j]? with
    | none => rw [ho] at hj; cases hj
    | some o' =>
      rw [ho] at hj
      cases hj
      cases o with
      | none => cases h2
      | some v =>
        cases h2
        exact ⟨v, ho, rfl⟩
  · rintro ⟨v, h1, h2⟩
    refine ⟨(q.1, some v), ?_, ?_⟩
    · apply List.mem_of_getElem? (i := q.1)
      rw [List.getElem?_mapIdx, h1]
      rfl
    · show some (q.1, gV r v) = some q
      rw [← h2]
def gH (ls : Array Slot) (nL : Nat) (r : Nat → Nat) (lv : List (Option Value)) : Prop := lv_has ls nL (gP r lv) ∧ ∀ v, some v ∈ lv → v.category = 1
theorem gH.at {ls : Array Slot} {nL : Nat} {r : Nat → Nat} {lv : List (Option Value)} (h : gH ls nL r lv) {i : Nat} {v : Value} (hi : lv[i]? = some (some v)) : ls[i]? = some (.val (gV r v)) := h.1.2.2 (i, gV r v) (gP_mem.mpr ⟨v, hi, rfl⟩)
theorem gH.set {ls' : Array Slot} {nL : Nat} {r : Nat → Nat} {lv : List (Option Value)} {i : Nat} {v : Value} (hc : ∀ v, some v ∈ lv → v.category = 1) (hv : v.category = 1)
    (h : lv_has ls' nL ((i, gV r v) :: (gP r lv).filter (fun q => !(q.1 == i) && !(q.1 + 1 == i && q.2.category == 2)))) : gH ls' nL r (lv.set i (some v)) := by
  refine ⟨⟨h.1, h.2.1, fun q hq => h.2.2 q ?_⟩, fun w hw => ?_⟩
  · obtain ⟨w, h1, h2⟩ := gP_mem.mp hq
    by_cases hj : q.1 = i
    · have hl : i < lv.length := by
        have := (List.getElem?_eq_some_iff.mp h1).1
        rw [List.length_set] at this
        omega
      rw [hj, List.getElem?_set_self hl] at h1
      cases h1
      obtain ⟨q1, q2⟩ := q
      dsimp only at hj h2
      rw [hj, h2]
      exact List.mem_cons_self
    · rw [List.getElem?_set_ne (Ne.symm hj)] at h1
      refine List.mem_cons_of_mem _ (List.mem_filter.mpr ⟨gP_mem.mpr ⟨w, h1, h2⟩, ?_⟩)
      have hw : q.2.category = 1 := by rw [h2, gV_cat]; exact hc w (List.mem_of_getElem? h1)
      simp [hj, hw]
  · rcases List.mem_or_eq_of_mem_set hw with hw | hw
    · exact hc w hw
    · cases hw
      exact hv
theorem gH.re {ls : Array Slot} {nL : Nat} {r r' : Nat → Nat} {lv : List (Option Value)} (h : gH ls nL r lv) (hr : ∀ a, some (Value.ref a) ∈ lv → r' a = r a) : gH ls nL r' lv := by
  refine ⟨⟨h.1.1, h.1.2.1, fun q hq => ?_⟩, h.2⟩
  obtain ⟨v, h1, h2⟩ := gP_mem.mp hq
  rw [h2, gV_eq (r := r) (fun a ha => hr a (by subst ha; exact List.mem_of_getElem? h1))]
  exact h.at h1
theorem gA_mem : ∀ (vs : List Value) (j i : Nat) (v : Value), (∀ w ∈ vs, w.category = 1) → vs[i]? = some v → (j + i, v) ∈ lv_args j vs
  | [], j, i, v, _, h => by simp at h
  | w :: vs, j, i, v, hc, h => by
    have hw : w.category = 1 := hc w List.mem_cons_self
    unfold lv_args
    rw [if_neg (by omega)]
    cases i with
    | zero =>
      rw [List.getElem?_cons_zero] at h
      cases h
      exact List.mem_cons_self
    | succ i =>
      rw [List.getElem?_cons_succ] at h
      have := gA_mem vs (j + 1) i v (fun w hw => hc w (List.mem_cons_of_mem _ hw)) h
      rw [show j + (i + 1) = j + 1 + i by omega]
      exact List.mem_cons_of_mem _ this
theorem gA_len (vs : List Value) (hc : ∀ w ∈ vs, w.category = 1) : (lg_sl vs).length = vs.length := by
  unfold lg_sl
  induction vs with
  | nil => rfl
  | cons w vs ih =>
    have hw : w.category = 1 := hc w List.mem_cons_self
    rw [List.flatMap_cons, List.length_append, ih (fun w hw => hc w (List.mem_cons_of_mem _ hw)), if_neg (by omega), List.length_cons]
    simp
    omega
/-- the end of a method: its answer, the memory behind it -/
def gQ (G : gG) (r : Nat → Nat) (Z : Nat → Prop) (post : Option Value → gLy → gMe → Prop) : Array Value → State → Outcome → State → Prop := fun _ _ oc t =>
  ∃ (v : Option Value) (L' : gLy) (M' : gMe) (r' : Nat → Nat), oc = .returned (v.map (gV r')) ∧ post v L' M' ∧ (∀ a, Z a → r' a = r a) ∧ gW G t ∧ gR G r' L' M' t.heap
def gMet (l : Launch) (G : gG) (y : MethodName) (cc : ByteArray) (nL : Nat) (ret : Option FieldType) (rm : Room) (as : List Value) (L : gLy) (M : gMe) (Z : Nat → Prop) (post : Option Value → gLy → gMe → Prop) (mc ms : Nat) : Prop :=
  ∀ r : Nat → Nat, Met l y [.code y cc nL ret] rm (va_Pc (as.map (gV r)) (fun U => gW G U ∧ gR G r L M U.heap)) (gQ G r Z post) mc ms (fun q => G.2.2.1 ≤ q)
def gC (p : Program) (s : State) (m : MethodId) (meth : Method) (c : Code) (y : MethodName) (cc : ByteArray) (nL : Nat) (ret : Option FieldType) : Prop :=
  p.tables.exec = Jvm.exec ∧ c.code = cc ∧ meth.sig.returnType = ret ∧ c.maxLocals = nL ∧ s.vm.findClass y.cls = some m.cls ∧ meth.locks = false ∧ meth.name = y.name
def V (l : Launch) (G : gG) (y : MethodName) (cc : ByteArray) (nL : Nat) (ret : Option FieldType) (R : Room) (mc ms : Nat) (Z : Nat → Prop) (post : Option Value → gLy → gMe → Prop) (L : gLy) (M : gMe) (cells slots : Nat) (lv : List (Option Value)) (pc : Nat) (st : List Value) : Prop :=
  ∀ (p : Program) (e : Env) (s : State) (m : MethodId) (args : Array Value) (below : List Frame) (meth : Method) (c : Code) (r0 r : Nat → Nat) (H : Heap) (locs : List Loc) (ls : Array Slot),
    gC p s m meth c y cc nL ret → (∀ a, Z a → r a = r0 a) → gW G s → gR G r L M H → (∀ q ∈ locs, G.2.2.1 ≤ q.base) → gH ls nL r lv →
    W p l e R s m args below meth c H locs cells slots (MQ below (gQ G r0 Z post) args s mc ms (fun q => G.2.2.1 ≤ q)) (F0 m pc ls (st.map (gV r)))
theorem gMet_of {l : Launch} {G : gG} {y : MethodName} {cc : ByteArray} {nL : Nat} {ret : Option FieldType} {rm : Room} {as : List Value} {L : gLy} {M : gMe} {Z : Nat → Prop} {post : Option Value → gLy → gMe → Prop} {mc ms : Nat} {lv : List (Option Value)}
    (hy : plainName y.cls = true) (hc : as.all (fun v => v.category == 1) = true) (hn : as.length ≤ nL) (hlv : as.map some ++ List.replicate (nL - as.length) none = lv) (h : V l G y cc nL ret rm mc ms Z post L M 0 0 lv 0 []) : gMet l G y cc nL ret rm as L M Z post mc ms := by
  intro r
  refine Met.ofW (cc := cc) (maxL := nL) (ret := ret) hy rfl ?_
  intro p e s m args below meth c s₁ B hml hv
  obtain ⟨rfl, hW, hR⟩ := hv
  have hc1 : ∀ v ∈ as, v.category = 1 := fun v hv => by
    have := List.all_eq_true.mp hc v hv
    simpa using this
  have hc2 : ∀ w ∈ as.map (gV r), w.category = 1 := by
    intro w hw
    obtain ⟨v, hv, rfl⟩ := List.mem_map.mp hw
    rw [gV_cat]; exact hc1 v hv
  have hl := lv_entry (as.map (gV r)) (n := nL) (by rw [gA_len _ hc2, List.length_map]; exact hn)
  rw [lg_entry_eq]
  generalize (lg_sl (as.map (gV r)) ++ List.replicate (nL - (lg_sl (as.map (gV r))).length) Slot.unset).toArray = ls at hl ⊢
  refine h p e s m _ below meth c r r s.heap [] ls ⟨B.exec, B.bytes, B.returns, hml, findClass_of_methodNamed B.named, B.notSynchronized, (name_of_methodNamed B.named B.method).1⟩ (fun _ _ => rfl) hW hR (fun q h => by cases h) ⟨⟨hl.1, hl.2.1, fun q hq => hl.2.2 q ?_⟩, fun v hv => ?_⟩
  · obtain ⟨v, h1, h2⟩ := gP_mem.mp hq
    subst hlv
    by_cases hlt : q.1 < as.length
    · rw [List.getElem?_append_left (by simpa using hlt), List.getElem?_map] at h1
      cases ha : as[q.1]? with
      | none => rw [ha] at h1; cases h1
      | some w =>
        rw [ha] at h1
        cases h1
        have := gA_mem (as.map (gV r)) 0 q.1 (gV r v) hc2 (by rw [List.getElem?_map, ha]; rfl)
        rw [Nat.zero_add] at this
        obtain ⟨q1, q2⟩ := q
        dsimp only at h2 this ⊢
        rw [h2]; exact this
    · rw [List.getElem?_append_right (by simpa using Nat.le_of_not_lt hlt)] at h1
      have := List.mem_of_getElem? h1
      rw [List.mem_replicate] at this
      cases this.2
  · subst hlv
    rcases List.mem_append.mp hv with hv | hv
    · obtain ⟨w, hw, e⟩ := List.mem_map.mp hv
      cases e
      exact hc1 v hw
    · rw [List.mem_replicate] at hv
      cases hv.2
end
section
section gRows
variable {l : Launch} {G : gG} {y : MethodName} {cc : ByteArray} {nL : Nat} {ret : Option FieldType} {R : Room} {mc ms : Nat} {Z : Nat → Prop} {post : Option Value → gLy → gMe → Prop} {L : gLy} {M : gMe} {cells slots : Nat} {lv : List (Option Value)} {pc : Nat} {st : List Value}
theorem V_iconst (q : Nat) {n : Int} {v : Int32} (hv : Int32.ofInt n = v) (d : decode cc pc = .ok (.iconst n, 1)) (hq : pc + 1 = q) (k : V l G y cc nL ret R mc ms Z post L M cells slots lv q (.int v :: st)) : V l G y cc nL ret R mc ms Z post L M cells slots lv pc (st) := by
  subst hq
  intro p e s m args below meth c r0 r H locs ls hC hZ hW hR hlo hls
  exact lv_iconst hC.1 hC.2.1 d hv (k p e s m args below meth c r0 r H locs ls hC hZ hW hR hlo hls)
theorem V_bipush (q : Nat) {n : Int} {v : Int32} (hv : (Int8.ofInt n).toInt32 = v) (d : decode cc pc = .ok (.bipush n, 2)) (hq : pc + 2 = q) (k : V l G y cc nL ret R mc ms Z post L M cells slots lv q (.int v :: st)) : V l G y cc nL ret R mc ms Z post L M cells slots lv pc (st) := by
  subst hq
  intro p e s m args below meth c r0 r H locs ls hC hZ hW hR hlo hls
  exact lv_bipush hC.1 hC.2.1 d hv (k p e s m args below meth c r0 r H locs ls hC hZ hW hR hlo hls)
theorem V_sipush (q : Nat) {n : Int} {v : Int32} (hv : (Int16.ofInt n).toInt32 = v) (d : decode cc pc = .ok (.sipush n, 3)) (hq : pc + 3 = q) (k : V l G y cc nL ret R mc ms Z post L M cells slots lv q (.int v :: st)) : V l G y cc nL ret R mc ms Z post L M cells slots lv pc (st) := by
  subst hq
  intro p e s m args below meth c r0 r H locs ls hC hZ hW hR hlo hls
  exact lv_sipush hC.1 hC.2.1 d hv (k p e s m args below meth c r0 r H locs ls hC hZ hW hR hlo hls)
theorem V_lconst (q : Nat) {n : Fin 2} {v : Int64} (hv : Int64.ofNat (n : Nat) = v) (d : decode cc pc = .ok (.lconst n, 1)) (hq : pc + 1 = q) (k : V l G y cc nL ret R mc ms Z post L M cells slots lv q (.long v :: st)) : V l G y cc nL ret R mc ms Z post L M cells slots lv pc (st) := by
  subst hq
  intro p e s m args below meth c r0 r H locs ls hC hZ hW hR hlo hls
  exact lv_lconst hC.1 hC.2.1 d hv (k p e s m args below meth c r0 r H locs ls hC hZ hW hR hlo hls)
theorem V_ldc (q : Nat) {index : Nat} {v : Int32} (hw : Cond.constant y.cls index v ∈ TB) (d : decode cc pc = .ok (.ldc index, 2)) (hq : pc + 2 = q) (k : V l G y cc nL ret R mc ms Z post L M cells slots lv q (.int v :: st)) : V l G y cc nL ret R mc ms Z post L M cells slots lv pc (st) := by
  subst hq
  intro p e s m args below meth c r0 r H locs ls hC hZ hW hR hlo hls
  exact lv_ldc hC.1 hC.2.1 hC.2.2.2.2.1 (hW.t hw) d (k p e s m args below meth c r0 r H locs ls hC hZ hW hR hlo hls)
theorem V_ldcw (q : Nat) {index : Nat} {v : Int32} (hw : Cond.constant y.cls index v ∈ TB) (d : decode cc pc = .ok (.ldc_w index, 3)) (hq : pc + 3 = q) (k : V l G y cc nL ret R mc ms Z post L M cells slots lv q (.int v :: st)) : V l G y cc nL ret R mc ms Z post L M cells slots lv pc (st) := by
  subst hq
  intro p e s m args below meth c r0 r H locs ls hC hZ hW hR hlo hls
  exact lv_ldcw hC.1 hC.2.1 hC.2.2.2.2.1 (hW.t hw) d (k p e s m args below meth c r0 r H locs ls hC hZ hW hR hlo hls)
theorem V_null (q : Nat)  (d : decode cc pc = .ok (.aconst_null, 1)) (hq : pc + 1 = q) (k : V l G y cc nL ret R mc ms Z post L M cells slots lv q (.null :: st)) : V l G y cc nL ret R mc ms Z post L M cells slots lv pc (st) := by
  subst hq
  intro p e s m args below meth c r0 r H locs ls hC hZ hW hR hlo hls
  exact lv_null hC.1 hC.2.1 d (k p e s m args below meth c r0 r H locs ls hC hZ hW hR hlo hls)
theorem V_iadd (q : Nat) {x z : Int32} (d : decode cc pc = .ok (.iadd, 1)) (hq : pc + 1 = q) (k : V l G y cc nL ret R mc ms Z post L M cells slots lv q (.int (x + z) :: st)) : V l G y cc nL ret R mc ms Z post L M cells slots lv pc (.int z :: .int x :: st) := by
  subst hq
  intro p e s m args below meth c r0 r H locs ls hC hZ hW hR hlo hls
  exact lv_iadd hC.1 hC.2.1 d (k p e s m args below meth c r0 r H locs ls hC hZ hW hR hlo hls)
theorem V_isub (q : Nat) {x z : Int32} (d : decode cc pc = .ok (.isub, 1)) (hq : pc + 1 = q) (k : V l G y cc nL ret R mc ms Z post L M cells slots lv q (.int (x - z) :: st)) : V l G y cc nL ret R mc ms Z post L M cells slots lv pc (.int z :: .int x :: st) := by
  subst hq
  intro p e s m args below meth c r0 r H locs ls hC hZ hW hR hlo hls
  exact lv_isub hC.1 hC.2.1 d (k p e s m args below meth c r0 r H locs ls hC hZ hW hR hlo hls)
theorem V_imul (q : Nat) {x z : Int32} (d : decode cc pc = .ok (.imul, 1)) (hq : pc + 1 = q) (k : V l G y cc nL ret R mc ms Z post L M cells slots lv q (.int (x * z) :: st)) : V l G y cc nL ret R mc ms Z post L M cells slots lv pc (.int z :: .int x :: st) := by
  subst hq
  intro p e s m args below meth c r0 r H locs ls hC hZ hW hR hlo hls
  exact lv_imul hC.1 hC.2.1 d (k p e s m args below meth c r0 r H locs ls hC hZ hW hR hlo hls)
theorem V_iand (q : Nat) {x z : Int32} (d : decode cc pc = .ok (.iand, 1)) (hq : pc + 1 = q) (k : V l G y cc nL ret R mc ms Z post L M cells slots lv q (.int (x &&& z) :: st)) : V l G y cc nL ret R mc ms Z post L M cells slots lv pc (.int z :: .int x :: st) := by
  subst hq
  intro p e s m args below meth c r0 r H locs ls hC hZ hW hR hlo hls
  exact lv_iand hC.1 hC.2.1 d (k p e s m args below meth c r0 r H locs ls hC hZ hW hR hlo hls)
theorem V_ior (q : Nat) {x z : Int32} (d : decode cc pc = .ok (.ior, 1)) (hq : pc + 1 = q) (k : V l G y cc nL ret R mc ms Z post L M cells slots lv q (.int (x ||| z) :: st)) : V l G y cc nL ret R mc ms Z post L M cells slots lv pc (.int z :: .int x :: st) := by
  subst hq
  intro p e s m args below meth c r0 r H locs ls hC hZ hW hR hlo hls
  exact lv_ior hC.1 hC.2.1 d (k p e s m args below meth c r0 r H locs ls hC hZ hW hR hlo hls)
theorem V_ixor (q : Nat) {x z : Int32} (d : decode cc pc = .ok (.ixor, 1)) (hq : pc + 1 = q) (k : V l G y cc nL ret R mc ms Z post L M cells slots lv q (.int (x ^^^ z) :: st)) : V l G y cc nL ret R mc ms Z post L M cells slots lv pc (.int z :: .int x :: st) := by
  subst hq
  intro p e s m args below meth c r0 r H locs ls hC hZ hW hR hlo hls
  exact lv_ixor hC.1 hC.2.1 d (k p e s m args below meth c r0 r H locs ls hC hZ hW hR hlo hls)
theorem V_ishl (q : Nat) {x z : Int32} (d : decode cc pc = .ok (.ishl, 1)) (hq : pc + 1 = q) (k : V l G y cc nL ret R mc ms Z post L M cells slots lv q (.int (x <<< (z &&& 31)) :: st)) : V l G y cc nL ret R mc ms Z post L M cells slots lv pc (.int z :: .int x :: st) := by
  subst hq
  intro p e s m args below meth c r0 r H locs ls hC hZ hW hR hlo hls
  exact lv_ishl hC.1 hC.2.1 d (k p e s m args below meth c r0 r H locs ls hC hZ hW hR hlo hls)
theorem V_ishr (q : Nat) {x z : Int32} (d : decode cc pc = .ok (.ishr, 1)) (hq : pc + 1 = q) (k : V l G y cc nL ret R mc ms Z post L M cells slots lv q (.int (x >>> (z &&& 31)) :: st)) : V l G y cc nL ret R mc ms Z post L M cells slots lv pc (.int z :: .int x :: st) := by
  subst hq
  intro p e s m args below meth c r0 r H locs ls hC hZ hW hR hlo hls
  exact lv_ishr hC.1 hC.2.1 d (k p e s m args below meth c r0 r H locs ls hC hZ hW hR hlo hls)
theorem V_iushr (q : Nat) {x z : Int32} (d : decode cc pc = .ok (.iushr, 1)) (hq : pc + 1 = q) (k : V l G y cc nL ret R mc ms Z post L M cells slots lv q (.int ((x.toUInt32 >>> (z.toUInt32 &&& Int32.toUInt32 31)).toInt32) :: st)) : V l G y cc nL ret R mc ms Z post L M cells slots lv pc (.int z :: .int x :: st) := by
  subst hq
  intro p e s m args below meth c r0 r H locs ls hC hZ hW hR hlo hls
  exact lv_iushr hC.1 hC.2.1 d rfl (k p e s m args below meth c r0 r H locs ls hC hZ hW hR hlo hls)
theorem V_ineg (q : Nat) {x : Int32} (d : decode cc pc = .ok (.ineg, 1)) (hq : pc + 1 = q) (k : V l G y cc nL ret R mc ms Z post L M cells slots lv q (.int (-x) :: st)) : V l G y cc nL ret R mc ms Z post L M cells slots lv pc (.int x :: st) := by
  subst hq
  intro p e s m args below meth c r0 r H locs ls hC hZ hW hR hlo hls
  exact lv_ineg hC.1 hC.2.1 d (k p e s m args below meth c r0 r H locs ls hC hZ hW hR hlo hls)
theorem V_i2l (q : Nat) {x : Int32} (d : decode cc pc = .ok (.i2l, 1)) (hq : pc + 1 = q) (k : V l G y cc nL ret R mc ms Z post L M cells slots lv q (.long x.toInt64 :: st)) : V l G y cc nL ret R mc ms Z post L M cells slots lv pc (.int x :: st) := by
  subst hq
  intro p e s m args below meth c r0 r H locs ls hC hZ hW hR hlo hls
  exact lv_i2l hC.1 hC.2.1 d rfl (k p e s m args below meth c r0 r H locs ls hC hZ hW hR hlo hls)
theorem V_lcmp (q : Nat) {x z : Int64} (d : decode cc pc = .ok (.lcmp, 1)) (hq : pc + 1 = q) (k : V l G y cc nL ret R mc ms Z post L M cells slots lv q (.int (lg_cmp x z) :: st)) : V l G y cc nL ret R mc ms Z post L M cells slots lv pc (.long z :: .long x :: st) := by
  subst hq
  intro p e s m args below meth c r0 r H locs ls hC hZ hW hR hlo hls
  exact W.lcmp hC.1 hC.2.1 d (k p e s m args below meth c r0 r H locs ls hC hZ hW hR hlo hls)
theorem V_dup (q : Nat) {a : Value} (ha : a.category = 1) (d : decode cc pc = .ok (.dup, 1)) (hq : pc + 1 = q) (k : V l G y cc nL ret R mc ms Z post L M cells slots lv q (a :: a :: st)) : V l G y cc nL ret R mc ms Z post L M cells slots lv pc (a :: st) := by
  subst hq
  intro p e s m args below meth c r0 r H locs ls hC hZ hW hR hlo hls
  exact lv_dup hC.1 hC.2.1 d (by rw [gV_cat]; exact ha) (k p e s m args below meth c r0 r H locs ls hC hZ hW hR hlo hls)
theorem V_pop (q : Nat) {a : Value} (ha : a.category = 1) (d : decode cc pc = .ok (.pop, 1)) (hq : pc + 1 = q) (k : V l G y cc nL ret R mc ms Z post L M cells slots lv q (st)) : V l G y cc nL ret R mc ms Z post L M cells slots lv pc (a :: st) := by
  subst hq
  intro p e s m args below meth c r0 r H locs ls hC hZ hW hR hlo hls
  exact lv_pop hC.1 hC.2.1 d (by rw [gV_cat]; exact ha) (k p e s m args below meth c r0 r H locs ls hC hZ hW hR hlo hls)
theorem V_dup_x1 (q : Nat) {a b : Value} (ha : a.category = 1) (hb : b.category = 1) (d : decode cc pc = .ok (.dup_x1, 1)) (hq : pc + 1 = q) (k : V l G y cc nL ret R mc ms Z post L M cells slots lv q (a :: b :: a :: st)) : V l G y cc nL ret R mc ms Z post L M cells slots lv pc (a :: b :: st) := by
  subst hq
  intro p e s m args below meth c r0 r H locs ls hC hZ hW hR hlo hls
  exact lv_dup_x1 hC.1 hC.2.1 d (by rw [gV_cat]; exact ha) (by rw [gV_cat]; exact hb) (k p e s m args below meth c r0 r H locs ls hC hZ hW hR hlo hls)
theorem V_dup_x2 (q : Nat) {a b z : Value} (ha : a.category = 1) (hb : b.category = 1) (hz : z.category = 1) (d : decode cc pc = .ok (.dup_x2, 1)) (hq : pc + 1 = q) (k : V l G y cc nL ret R mc ms Z post L M cells slots lv q (a :: b :: z :: a :: st)) : V l G y cc nL ret R mc ms Z post L M cells slots lv pc (a :: b :: z :: st) := by
  subst hq
  intro p e s m args below meth c r0 r H locs ls hC hZ hW hR hlo hls
  exact lv_dup_x2 hC.1 hC.2.1 d (by rw [gV_cat]; exact ha) (by rw [gV_cat]; exact hb) (by rw [gV_cat]; exact hz) (k p e s m args below meth c r0 r H locs ls hC hZ hW hR hlo hls)
theorem V_dup2 (q : Nat) {a b : Value} (ha : a.category = 1) (hb : b.category = 1) (d : decode cc pc = .ok (.dup2, 1)) (hq : pc + 1 = q) (k : V l G y cc nL ret R mc ms Z post L M cells slots lv q (a :: b :: a :: b :: st)) : V l G y cc nL ret R mc ms Z post L M cells slots lv pc (a :: b :: st) := by
  subst hq
  intro p e s m args below meth c r0 r H locs ls hC hZ hW hR hlo hls
  exact lv_dup2_11 hC.1 hC.2.1 d (by rw [gV_cat]; exact ha) (by rw [gV_cat]; exact hb) (k p e s m args below meth c r0 r H locs ls hC hZ hW hR hlo hls)
theorem V_if_eq (t q : Nat) {x : Int32} {off : Int} (d : decode cc pc = .ok (.ifCond .eq off, 3)) (ht : (pc : Int) + off = (t : Int)) (hq : pc + 3 = q) (kt : x = 0 → V l G y cc nL ret R mc ms Z post L M cells slots lv t st) (kf : ¬ x = 0 → V l G y cc nL ret R mc ms Z post L M cells slots lv q st) : V l G y cc nL ret R mc ms Z post L M cells slots lv pc (.int x :: st) := by
  subst hq
  intro p e s m args below meth c r0 r H locs ls hC hZ hW hR hlo hls
  exact lv_if_eq hC.1 hC.2.1 d ht (fun h => kt h p e s m args below meth c r0 r H locs ls hC hZ hW hR hlo hls) (fun h => kf h p e s m args below meth c r0 r H locs ls hC hZ hW hR hlo hls)
theorem V_icmp_eq (t q : Nat) {x z : Int32} {off : Int} (d : decode cc pc = .ok (.if_icmp .eq off, 3)) (ht : (pc : Int) + off = (t : Int)) (hq : pc + 3 = q) (kt : x = z → V l G y cc nL ret R mc ms Z post L M cells slots lv t st) (kf : ¬ x = z → V l G y cc nL ret R mc ms Z post L M cells slots lv q st) : V l G y cc nL ret R mc ms Z post L M cells slots lv pc (.int z :: .int x :: st) := by
  subst hq
  intro p e s m args below meth c r0 r H locs ls hC hZ hW hR hlo hls
  exact lv_icmp_eq hC.1 hC.2.1 d ht (fun h => kt h p e s m args below meth c r0 r H locs ls hC hZ hW hR hlo hls) (fun h => kf h p e s m args below meth c r0 r H locs ls hC hZ hW hR hlo hls)
theorem V_if_ne (t q : Nat) {x : Int32} {off : Int} (d : decode cc pc = .ok (.ifCond .ne off, 3)) (ht : (pc : Int) + off = (t : Int)) (hq : pc + 3 = q) (kt : ¬ x = 0 → V l G y cc nL ret R mc ms Z post L M cells slots lv t st) (kf : x = 0 → V l G y cc nL ret R mc ms Z post L M cells slots lv q st) : V l G y cc nL ret R mc ms Z post L M cells slots lv pc (.int x :: st) := by
  subst hq
  intro p e s m args below meth c r0 r H locs ls hC hZ hW hR hlo hls
  exact lv_if_ne hC.1 hC.2.1 d ht (fun h => kt h p e s m args below meth c r0 r H locs ls hC hZ hW hR hlo hls) (fun h => kf h p e s m args below meth c r0 r H locs ls hC hZ hW hR hlo hls)
theorem V_icmp_ne (t q : Nat) {x z : Int32} {off : Int} (d : decode cc pc = .ok (.if_icmp .ne off, 3)) (ht : (pc : Int) + off = (t : Int)) (hq : pc + 3 = q) (kt : ¬ x = z → V l G y cc nL ret R mc ms Z post L M cells slots lv t st) (kf : x = z → V l G y cc nL ret R mc ms Z post L M cells slots lv q st) : V l G y cc nL ret R mc ms Z post L M cells slots lv pc (.int z :: .int x :: st) := by
  subst hq
  intro p e s m args below meth c r0 r H locs ls hC hZ hW hR hlo hls
  exact lv_icmp_ne hC.1 hC.2.1 d ht (fun h => kt h p e s m args below meth c r0 r H locs ls hC hZ hW hR hlo hls) (fun h => kf h p e s m args below meth c r0 r H locs ls hC hZ hW hR hlo hls)
theorem V_if_lt (t q : Nat) {x : Int32} {off : Int} (d : decode cc pc = .ok (.ifCond .lt off, 3)) (ht : (pc : Int) + off = (t : Int)) (hq : pc + 3 = q) (kt : x < 0 → V l G y cc nL ret R mc ms Z post L M cells slots lv t st) (kf : ¬ x < 0 → V l G y cc nL ret R mc ms Z post L M cells slots lv q st) : V l G y cc nL ret R mc ms Z post L M cells slots lv pc (.int x :: st) := by
  subst hq
  intro p e s m args below meth c r0 r H locs ls hC hZ hW hR hlo hls
  exact lv_if_lt hC.1 hC.2.1 d ht (fun h => kt h p e s m args below meth c r0 r H locs ls hC hZ hW hR hlo hls) (fun h => kf h p e s m args below meth c r0 r H locs ls hC hZ hW hR hlo hls)
theorem V_icmp_lt (t q : Nat) {x z : Int32} {off : Int} (d : decode cc pc = .ok (.if_icmp .lt off, 3)) (ht : (pc : Int) + off = (t : Int)) (hq : pc + 3 = q) (kt : x < z → V l G y cc nL ret R mc ms Z post L M cells slots lv t st) (kf : ¬ x < z → V l G y cc nL ret R mc ms Z post L M cells slots lv q st) : V l G y cc nL ret R mc ms Z post L M cells slots lv pc (.int z :: .int x :: st) := by
  subst hq
  intro p e s m args below meth c r0 r H locs ls hC hZ hW hR hlo hls
  exact lv_icmp_lt hC.1 hC.2.1 d ht (fun h => kt h p e s m args below meth c r0 r H locs ls hC hZ hW hR hlo hls) (fun h => kf h p e s m args below meth c r0 r H locs ls hC hZ hW hR hlo hls)
theorem V_if_ge (t q : Nat) {x : Int32} {off : Int} (d : decode cc pc = .ok (.ifCond .ge off, 3)) (ht : (pc : Int) + off = (t : Int)) (hq : pc + 3 = q) (kt : 0 ≤ x → V l G y cc nL ret R mc ms Z post L M cells slots lv t st) (kf : ¬ 0 ≤ x → V l G y cc nL ret R mc ms Z post L M cells slots lv q st) : V l G y cc nL ret R mc ms Z post L M cells slots lv pc (.int x :: st) := by
  subst hq
  intro p e s m args below meth c r0 r H locs ls hC hZ hW hR hlo hls
  exact lv_if_ge hC.1 hC.2.1 d ht (fun h => kt h p e s m args below meth c r0 r H locs ls hC hZ hW hR hlo hls) (fun h => kf h p e s m args below meth c r0 r H locs ls hC hZ hW hR hlo hls)
theorem V_icmp_ge (t q : Nat) {x z : Int32} {off : Int} (d : decode cc pc = .ok (.if_icmp .ge off, 3)) (ht : (pc : Int) + off = (t : Int)) (hq : pc + 3 = q) (kt : z ≤ x → V l G y cc nL ret R mc ms Z post L M cells slots lv t st) (kf : ¬ z ≤ x → V l G y cc nL ret R mc ms Z post L M cells slots lv q st) : V l G y cc nL ret R mc ms Z post L M cells slots lv pc (.int z :: .int x :: st) := by
  subst hq
  intro p e s m args below meth c r0 r H locs ls hC hZ hW hR hlo hls
  exact lv_icmp_ge hC.1 hC.2.1 d ht (fun h => kt h p e s m args below meth c r0 r H locs ls hC hZ hW hR hlo hls) (fun h => kf h p e s m args below meth c r0 r H locs ls hC hZ hW hR hlo hls)
theorem V_if_gt (t q : Nat) {x : Int32} {off : Int} (d : decode cc pc = .ok (.ifCond .gt off, 3)) (ht : (pc : Int) + off = (t : Int)) (hq : pc + 3 = q) (kt : 0 < x → V l G y cc nL ret R mc ms Z post L M cells slots lv t st) (kf : ¬ 0 < x → V l G y cc nL ret R mc ms Z post L M cells slots lv q st) : V l G y cc nL ret R mc ms Z post L M cells slots lv pc (.int x :: st) := by
  subst hq
  intro p e s m args below meth c r0 r H locs ls hC hZ hW hR hlo hls
  exact lv_if_gt hC.1 hC.2.1 d ht (fun h => kt h p e s m args below meth c r0 r H locs ls hC hZ hW hR hlo hls) (fun h => kf h p e s m args below meth c r0 r H locs ls hC hZ hW hR hlo hls)
theorem V_icmp_gt (t q : Nat) {x z : Int32} {off : Int} (d : decode cc pc = .ok (.if_icmp .gt off, 3)) (ht : (pc : Int) + off = (t : Int)) (hq : pc + 3 = q) (kt : z < x → V l G y cc nL ret R mc ms Z post L M cells slots lv t st) (kf : ¬ z < x → V l G y cc nL ret R mc ms Z post L M cells slots lv q st) : V l G y cc nL ret R mc ms Z post L M cells slots lv pc (.int z :: .int x :: st) := by
  subst hq
  intro p e s m args below meth c r0 r H locs ls hC hZ hW hR hlo hls
  exact lv_icmp_gt hC.1 hC.2.1 d ht (fun h => kt h p e s m args below meth c r0 r H locs ls hC hZ hW hR hlo hls) (fun h => kf h p e s m args below meth c r0 r H locs ls hC hZ hW hR hlo hls)
theorem V_if_le (t q : Nat) {x : Int32} {off : Int} (d : decode cc pc = .ok (.ifCond .le off, 3)) (ht : (pc : Int) + off = (t : Int)) (hq : pc + 3 = q) (kt : x ≤ 0 → V l G y cc nL ret R mc ms Z post L M cells slots lv t st) (kf : ¬ x ≤ 0 → V l G y cc nL ret R mc ms Z post L M cells slots lv q st) : V l G y cc nL ret R mc ms Z post L M cells slots lv pc (.int x :: st) := by
  subst hq
  intro p e s m args below meth c r0 r H locs ls hC hZ hW hR hlo hls
  exact lv_if_le hC.1 hC.2.1 d ht (fun h => kt h p e s m args below meth c r0 r H locs ls hC hZ hW hR hlo hls) (fun h => kf h p e s m args below meth c r0 r H locs ls hC hZ hW hR hlo hls)
theorem V_icmp_le (t q : Nat) {x z : Int32} {off : Int} (d : decode cc pc = .ok (.if_icmp .le off, 3)) (ht : (pc : Int) + off = (t : Int)) (hq : pc + 3 = q) (kt : x ≤ z → V l G y cc nL ret R mc ms Z post L M cells slots lv t st) (kf : ¬ x ≤ z → V l G y cc nL ret R mc ms Z post L M cells slots lv q st) : V l G y cc nL ret R mc ms Z post L M cells slots lv pc (.int z :: .int x :: st) := by
  subst hq
  intro p e s m args below meth c r0 r H locs ls hC hZ hW hR hlo hls
  exact lv_icmp_le hC.1 hC.2.1 d ht (fun h => kt h p e s m args below meth c r0 r H locs ls hC hZ hW hR hlo hls) (fun h => kf h p e s m args below meth c r0 r H locs ls hC hZ hW hR hlo hls)
theorem V_goto (t : Nat) {off : Int} (d : decode cc pc = .ok (.goto off, 3)) (ht : (pc : Int) + off = (t : Int)) (k : V l G y cc nL ret R mc ms Z post L M cells slots lv t st) : V l G y cc nL ret R mc ms Z post L M cells slots lv pc st := by
  intro p e s m args below meth c r0 r H locs ls hC hZ hW hR hlo hls
  exact lv_goto hC.1 hC.2.1 d ht (k p e s m args below meth c r0 r H locs ls hC hZ hW hR hlo hls)
theorem V_nn (t : Nat) {off : Int} {a : Nat} (d : decode cc pc = .ok (.ifnonnull off, 3)) (ht : (pc : Int) + off = (t : Int)) (k : V l G y cc nL ret R mc ms Z post L M cells slots lv t st) : V l G y cc nL ret R mc ms Z post L M cells slots lv pc (.ref a :: st) := by
  intro p e s m args below meth c r0 r H locs ls hC hZ hW hR hlo hls
  exact lv_ifnonnull hC.1 hC.2.1 d ht (k p e s m args below meth c r0 r H locs ls hC hZ hW hR hlo hls)
theorem V_nnN (q : Nat) {off : Int} (d : decode cc pc = .ok (.ifnonnull off, 3)) (hq : pc + 3 = q) (k : V l G y cc nL ret R mc ms Z post L M cells slots lv q st) : V l G y cc nL ret R mc ms Z post L M cells slots lv pc (.null :: st) := by
  subst hq
  intro p e s m args below meth c r0 r H locs ls hC hZ hW hR hlo hls
  exact lv_ifnonnullN hC.1 hC.2.1 d (k p e s m args below meth c r0 r H locs ls hC hZ hW hR hlo hls)
theorem V_nul (q : Nat) {off : Int} {a : Nat} (d : decode cc pc = .ok (.ifnull off, 3)) (hq : pc + 3 = q) (k : V l G y cc nL ret R mc ms Z post L M cells slots lv q st) : V l G y cc nL ret R mc ms Z post L M cells slots lv pc (.ref a :: st) := by
  subst hq
  intro p e s m args below meth c r0 r H locs ls hC hZ hW hR hlo hls
  exact lv_ifnull hC.1 hC.2.1 d (k p e s m args below meth c r0 r H locs ls hC hZ hW hR hlo hls)
theorem V_nulN (t : Nat) {off : Int} (d : decode cc pc = .ok (.ifnull off, 3)) (ht : (pc : Int) + off = (t : Int)) (k : V l G y cc nL ret R mc ms Z post L M cells slots lv t st) : V l G y cc nL ret R mc ms Z post L M cells slots lv pc (.null :: st) := by
  intro p e s m args below meth c r0 r H locs ls hC hZ hW hR hlo hls
  exact lv_ifnullN hC.1 hC.2.1 d ht (k p e s m args below meth c r0 r H locs ls hC hZ hW hR hlo hls)
theorem V_tabOut (t : Nat) {dflt lo hi : Int} {offs : Array Int} {len : Nat} {x : Int32} (d : decode cc pc = .ok (.tableswitch dflt lo hi offs, len)) (h : x.toInt < lo ∨ hi < x.toInt) (ht : (pc : Int) + dflt = (t : Int)) (k : V l G y cc nL ret R mc ms Z post L M cells slots lv t st) : V l G y cc nL ret R mc ms Z post L M cells slots lv pc (.int x :: st) := by
  intro p e s m args below meth c r0 r H locs ls hC hZ hW hR hlo hls
  exact lv_tableOut hC.1 hC.2.1 d h ht (k p e s m args below meth c r0 r H locs ls hC hZ hW hR hlo hls)
theorem V_tabIn (t : Nat) {dflt lo hi : Int} {offs : Array Int} {len : Nat} {x : Int32} {off : Int} (d : decode cc pc = .ok (.tableswitch dflt lo hi offs, len)) (h1 : ¬ x.toInt < lo) (h2 : ¬ hi < x.toInt) (ho : offs[(x.toInt - lo).toNat]? = some off) (ht : (pc : Int) + off = (t : Int)) (k : V l G y cc nL ret R mc ms Z post L M cells slots lv t st) : V l G y cc nL ret R mc ms Z post L M cells slots lv pc (.int x :: st) := by
  intro p e s m args below meth c r0 r H locs ls hC hZ hW hR hlo hls
  exact lv_tableIn hC.1 hC.2.1 d h1 h2 ho ht (k p e s m args below meth c r0 r H locs ls hC hZ hW hR hlo hls)
theorem V_il0 (q : Nat) {t : List (Option Value)} {x : Int32} (d : decode cc pc = .ok (.iload_n 0, 1)) (hq : pc + 1 = q) (k : V l G y cc nL ret R mc ms Z post L M cells slots (some (.int x) :: t) q (.int x :: st)) : V l G y cc nL ret R mc ms Z post L M cells slots (some (.int x) :: t) pc (st) := by
  subst hq
  intro p e s m args below meth c r0 r H locs ls hC hZ hW hR hlo hls
  exact lv_iload_n hC.1 hC.2.1 d rfl (hls.at (i := 0) rfl) (k p e s m args below meth c r0 r H locs ls hC hZ hW hR hlo hls)
theorem V_al0 (q : Nat) {t : List (Option Value)} {x : Nat} (d : decode cc pc = .ok (.aload_n 0, 1)) (hq : pc + 1 = q) (k : V l G y cc nL ret R mc ms Z post L M cells slots (some (.ref x) :: t) q (.ref x :: st)) : V l G y cc nL ret R mc ms Z post L M cells slots (some (.ref x) :: t) pc (st) := by
  subst hq
  intro p e s m args below meth c r0 r H locs ls hC hZ hW hR hlo hls
  exact lv_aload_n hC.1 hC.2.1 d rfl (hls.at (i := 0) rfl) (k p e s m args below meth c r0 r H locs ls hC hZ hW hR hlo hls)
theorem V_an0 (q : Nat) {t : List (Option Value)}  (d : decode cc pc = .ok (.aload_n 0, 1)) (hq : pc + 1 = q) (k : V l G y cc nL ret R mc ms Z post L M cells slots (some (.null) :: t) q (.null :: st)) : V l G y cc nL ret R mc ms Z post L M cells slots (some (.null) :: t) pc (st) := by
  subst hq
  intro p e s m args below meth c r0 r H locs ls hC hZ hW hR hlo hls
  exact lv_aload_nN hC.1 hC.2.1 d rfl (hls.at (i := 0) rfl) (k p e s m args below meth c r0 r H locs ls hC hZ hW hR hlo hls)
theorem V_is0 (q : Nat) {b : Option Value} {t : List (Option Value)} {x : Int32} (d : decode cc pc = .ok (.istore_n 0, 1)) (hn : 0 < nL) (hq : pc + 1 = q) (k : V l G y cc nL ret R mc ms Z post L M cells slots (some (.int x) :: t) q st) : V l G y cc nL ret R mc ms Z post L M cells slots (b :: t) pc (.int x :: st) := by
  subst hq
  intro p e s m args below meth c r0 r H locs ls hC hZ hW hR hlo hls
  exact lv_istore_n hC.1 hC.2.1 d rfl hls.1 hn rfl (fun ls' h' => k p e s m args below meth c r0 r H locs ls' hC hZ hW hR hlo (gH.set (i := 0) (v := .int x) hls.2 rfl h'))
theorem V_as0 (q : Nat) {b : Option Value} {t : List (Option Value)} {x : Nat} (d : decode cc pc = .ok (.astore_n 0, 1)) (hn : 0 < nL) (hq : pc + 1 = q) (k : V l G y cc nL ret R mc ms Z post L M cells slots (some (.ref x) :: t) q st) : V l G y cc nL ret R mc ms Z post L M cells slots (b :: t) pc (.ref x :: st) := by
  subst hq
  intro p e s m args below meth c r0 r H locs ls hC hZ hW hR hlo hls
  exact lv_astore_n hC.1 hC.2.1 d rfl hls.1 hn rfl (fun ls' h' => k p e s m args below meth c r0 r H locs ls' hC hZ hW hR hlo (gH.set (i := 0) (v := .ref x) hls.2 rfl h'))
theorem V_az0 (q : Nat) {b : Option Value} {t : List (Option Value)}  (d : decode cc pc = .ok (.astore_n 0, 1)) (hn : 0 < nL) (hq : pc + 1 = q) (k : V l G y cc nL ret R mc ms Z post L M cells slots (some (.null) :: t) q st) : V l G y cc nL ret R mc ms Z post L M cells slots (b :: t) pc (.null :: st) := by
  subst hq
  intro p e s m args below meth c r0 r H locs ls hC hZ hW hR hlo hls
  exact lv_astore_nN hC.1 hC.2.1 d rfl hls.1 hn rfl (fun ls' h' => k p e s m args below meth c r0 r H locs ls' hC hZ hW hR hlo (gH.set (i := 0) (v := .null) hls.2 rfl h'))
theorem V_ii0 (q : Nat) {t : List (Option Value)} {x v : Int32} {n : Int} (d : decode cc pc = .ok (.iinc 0 n, 3)) (hn : 0 < nL) (hv : Int32.ofInt n = v) (hq : pc + 3 = q) (k : V l G y cc nL ret R mc ms Z post L M cells slots (some (.int (x + v)) :: t) q st) : V l G y cc nL ret R mc ms Z post L M cells slots (some (.int x) :: t) pc st := by
  subst hq
  subst hv
  intro p e s m args below meth c r0 r H locs ls hC hZ hW hR hlo hls
  obtain ⟨k9, hk9⟩ := List.getElem?_of_mem (gP_mem.mpr ⟨.int x, rfl, rfl⟩ : (0, Value.int x) ∈ gP r (some (.int x) :: t))
  exact lv_iinc hC.1 hC.2.1 d hls.1 hk9 rfl hn rfl (fun ls' h' => k p e s m args below meth c r0 r H locs ls' hC hZ hW hR hlo (gH.set (i := 0) (v := .int (x + Int32.ofInt n)) hls.2 rfl h'))
theorem V_il1 (q : Nat) {a0 : Option Value} {t : List (Option Value)} {x : Int32} (d : decode cc pc = .ok (.iload_n 1, 1)) (hq : pc + 1 = q) (k : V l G y cc nL ret R mc ms Z post L M cells slots (a0 :: some (.int x) :: t) q (.int x :: st)) : V l G y cc nL ret R mc ms Z post L M cells slots (a0 :: some (.int x) :: t) pc (st) := by
  subst hq
  intro p e s m args below meth c r0 r H locs ls hC hZ hW hR hlo hls
  exact lv_iload_n hC.1 hC.2.1 d rfl (hls.at (i := 1) rfl) (k p e s m args below meth c r0 r H locs ls hC hZ hW hR hlo hls)
theorem V_al1 (q : Nat) {a0 : Option Value} {t : List (Option Value)} {x : Nat} (d : decode cc pc = .ok (.aload_n 1, 1)) (hq : pc + 1 = q) (k : V l G y cc nL ret R mc ms Z post L M cells slots (a0 :: some (.ref x) :: t) q (.ref x :: st)) : V l G y cc nL ret R mc ms Z post L M cells slots (a0 :: some (.ref x) :: t) pc (st) := by
  subst hq
  intro p e s m args below meth c r0 r H locs ls hC hZ hW hR hlo hls
  exact lv_aload_n hC.1 hC.2.1 d rfl (hls.at (i := 1) rfl) (k p e s m args below meth c r0 r H locs ls hC hZ hW hR hlo hls)
theorem V_an1 (q : Nat) {a0 : Option Value} {t : List (Option Value)}  (d : decode cc pc = .ok (.aload_n 1, 1)) (hq : pc + 1 = q) (k : V l G y cc nL ret R mc ms Z post L M cells slots (a0 :: some (.null) :: t) q (.null :: st)) : V l G y cc nL ret R mc ms Z post L M cells slots (a0 :: some (.null) :: t) pc (st) := by
  subst hq
  intro p e s m args below meth c r0 r H locs ls hC hZ hW hR hlo hls
  exact lv_aload_nN hC.1 hC.2.1 d rfl (hls.at (i := 1) rfl) (k p e s m args below meth c r0 r H locs ls hC hZ hW hR hlo hls)
theorem V_is1 (q : Nat) {a0 b : Option Value} {t : List (Option Value)} {x : Int32} (d : decode cc pc = .ok (.istore_n 1, 1)) (hn : 1 < nL) (hq : pc + 1 = q) (k : V l G y cc nL ret R mc ms Z post L M cells slots (a0 :: some (.int x) :: t) q st) : V l G y cc nL ret R mc ms Z post L M cells slots (a0 :: b :: t) pc (.int x :: st) := by
  subst hq
  intro p e s m args below meth c r0 r H locs ls hC hZ hW hR hlo hls
  exact lv_istore_n hC.1 hC.2.1 d rfl hls.1 hn rfl (fun ls' h' => k p e s m args below meth c r0 r H locs ls' hC hZ hW hR hlo (gH.set (i := 1) (v := .int x) hls.2 rfl h'))
theorem V_as1 (q : Nat) {a0 b : Option Value} {t : List (Option Value)} {x : Nat} (d : decode cc pc = .ok (.astore_n 1, 1)) (hn : 1 < nL) (hq : pc + 1 = q) (k : V l G y cc nL ret R mc ms Z post L M cells slots (a0 :: some (.ref x) :: t) q st) : V l G y cc nL ret R mc ms Z post L M cells slots (a0 :: b :: t) pc (.ref x :: st) := by
  subst hq
  intro p e s m args below meth c r0 r H locs ls hC hZ hW hR hlo hls
  exact lv_astore_n hC.1 hC.2.1 d rfl hls.1 hn rfl (fun ls' h' => k p e s m args below meth c r0 r H locs ls' hC hZ hW hR hlo (gH.set (i := 1) (v := .ref x) hls.2 rfl h'))
theorem V_az1 (q : Nat) {a0 b : Option Value} {t : List (Option Value)}  (d : decode cc pc = .ok (.astore_n 1, 1)) (hn : 1 < nL) (hq : pc + 1 = q) (k : V l G y cc nL ret R mc ms Z post L M cells slots (a0 :: some (.null) :: t) q st) : V l G y cc nL ret R mc ms Z post L M cells slots (a0 :: b :: t) pc (.null :: st) := by
  subst hq
  intro p e s m args below meth c r0 r H locs ls hC hZ hW hR hlo hls
  exact lv_astore_nN hC.1 hC.2.1 d rfl hls.1 hn rfl (fun ls' h' => k p e s m args below meth c r0 r H locs ls' hC hZ hW hR hlo (gH.set (i := 1) (v := .null) hls.2 rfl h'))
theorem V_ii1 (q : Nat) {a0 : Option Value} {t : List (Option Value)} {x v : Int32} {n : Int} (d : decode cc pc = .ok (.iinc 1 n, 3)) (hn : 1 < nL) (hv : Int32.ofInt n = v) (hq : pc + 3 = q) (k : V l G y cc nL ret R mc ms Z post L M cells slots (a0 :: some (.int (x + v)) :: t) q st) : V l G y cc nL ret R mc ms Z post L M cells slots (a0 :: some (.int x) :: t) pc st := by
  subst hq
  subst hv
  intro p e s m args below meth c r0 r H locs ls hC hZ hW hR hlo hls
  obtain ⟨k9, hk9⟩ := List.getElem?_of_mem (gP_mem.mpr ⟨.int x, rfl, rfl⟩ : (1, Value.int x) ∈ gP r (a0 :: some (.int x) :: t))
  exact lv_iinc hC.1 hC.2.1 d hls.1 hk9 rfl hn rfl (fun ls' h' => k p e s m args below meth c r0 r H locs ls' hC hZ hW hR hlo (gH.set (i := 1) (v := .int (x + Int32.ofInt n)) hls.2 rfl h'))
theorem V_il2 (q : Nat) {a0 a1 : Option Value} {t : List (Option Value)} {x : Int32} (d : decode cc pc = .ok (.iload_n 2, 1)) (hq : pc + 1 = q) (k : V l G y cc nL ret R mc ms Z post L M cells slots (a0 :: a1 :: some (.int x) :: t) q (.int x :: st)) : V l G y cc nL ret R mc ms Z post L M cells slots (a0 :: a1 :: some (.int x) :: t) pc (st) := by
  subst hq
  intro p e s m args below meth c r0 r H locs ls hC hZ hW hR hlo hls
  exact lv_iload_n hC.1 hC.2.1 d rfl (hls.at (i := 2) rfl) (k p e s m args below meth c r0 r H locs ls hC hZ hW hR hlo hls)
theorem V_al2 (q : Nat) {a0 a1 : Option Value} {t : List (Option Value)} {x : Nat} (d : decode cc pc = .ok (.aload_n 2, 1)) (hq : pc + 1 = q) (k : V l G y cc nL ret R mc ms Z post L M cells slots (a0 :: a1 :: some (.ref x) :: t) q (.ref x :: st)) : V l G y cc nL ret R mc ms Z post L M cells slots (a0 :: a1 :: some (.ref x) :: t) pc (st) := by
  subst hq
  intro p e s m args below meth c r0 r H locs ls hC hZ hW hR hlo hls
  exact lv_aload_n hC.1 hC.2.1 d rfl (hls.at (i := 2) rfl) (k p e s m args below meth c r0 r H locs ls hC hZ hW hR hlo hls)
theorem V_an2 (q : Nat) {a0 a1 : Option Value} {t : List (Option Value)}  (d : decode cc pc = .ok (.aload_n 2, 1)) (hq : pc + 1 = q) (k : V l G y cc nL ret R mc ms Z post L M cells slots (a0 :: a1 :: some (.null) :: t) q (.null :: st)) : V l G y cc nL ret R mc ms Z post L M cells slots (a0 :: a1 :: some (.null) :: t) pc (st) := by
  subst hq
  intro p e s m args below meth c r0 r H locs ls hC hZ hW hR hlo hls
  exact lv_aload_nN hC.1 hC.2.1 d rfl (hls.at (i := 2) rfl) (k p e s m args below meth c r0 r H locs ls hC hZ hW hR hlo hls)
theorem V_is2 (q : Nat) {a0 a1 b : Option Value} {t : List (Option Value)} {x : Int32} (d : decode cc pc = .ok (.istore_n 2, 1)) (hn : 2 < nL) (hq : pc + 1 = q) (k : V l G y cc nL ret R mc ms Z post L M cells slots (a0 :: a1 :: some (.int x) :: t) q st) : V l G y cc nL ret R mc ms Z post L M cells slots (a0 :: a1 :: b :: t) pc (.int x :: st) := by
  subst hq
  intro p e s m args below meth c r0 r H locs ls hC hZ hW hR hlo hls
  exact lv_istore_n hC.1 hC.2.1 d rfl hls.1 hn rfl (fun ls' h' => k p e s m args below meth c r0 r H locs ls' hC hZ hW hR hlo (gH.set (i := 2) (v := .int x) hls.2 rfl h'))
theorem V_as2 (q : Nat) {a0 a1 b : Option Value} {t : List (Option Value)} {x : Nat} (d : decode cc pc = .ok (.astore_n 2, 1)) (hn : 2 < nL) (hq : pc + 1 = q) (k : V l G y cc nL ret R mc ms Z post L M cells slots (a0 :: a1 :: some (.ref x) :: t) q st) : V l G y cc nL ret R mc ms Z post L M cells slots (a0 :: a1 :: b :: t) pc (.ref x :: st) := by
  subst hq
  intro p e s m args below meth c r0 r H locs ls hC hZ hW hR hlo hls
  exact lv_astore_n hC.1 hC.2.1 d rfl hls.1 hn rfl (fun ls' h' => k p e s m args below meth c r0 r H locs ls' hC hZ hW hR hlo (gH.set (i := 2) (v := .ref x) hls.2 rfl h'))
theorem V_az2 (q : Nat) {a0 a1 b : Option Value} {t : List (Option Value)}  (d : decode cc pc = .ok (.astore_n 2, 1)) (hn : 2 < nL) (hq : pc + 1 = q) (k : V l G y cc nL ret R mc ms Z post L M cells slots (a0 :: a1 :: some (.null) :: t) q st) : V l G y cc nL ret R mc ms Z post L M cells slots (a0 :: a1 :: b :: t) pc (.null :: st) := by
  subst hq
  intro p e s m args below meth c r0 r H locs ls hC hZ hW hR hlo hls
  exact lv_astore_nN hC.1 hC.2.1 d rfl hls.1 hn rfl (fun ls' h' => k p e s m args below meth c r0 r H locs ls' hC hZ hW hR hlo (gH.set (i := 2) (v := .null) hls.2 rfl h'))
theorem V_ii2 (q : Nat) {a0 a1 : Option Value} {t : List (Option Value)} {x v : Int32} {n : Int} (d : decode cc pc = .ok (.iinc 2 n, 3)) (hn : 2 < nL) (hv : Int32.ofInt n = v) (hq : pc + 3 = q) (k : V l G y cc nL ret R mc ms Z post L M cells slots (a0 :: a1 :: some (.int (x + v)) :: t) q st) : V l G y cc nL ret R mc ms Z post L M cells slots (a0 :: a1 :: some (.int x) :: t) pc st := by
  subst hq
  subst hv
  intro p e s m args below meth c r0 r H locs ls hC hZ hW hR hlo hls
  obtain ⟨k9, hk9⟩ := List.getElem?_of_mem (gP_mem.mpr ⟨.int x, rfl, rfl⟩ : (2, Value.int x) ∈ gP r (a0 :: a1 :: some (.int x) :: t))
  exact lv_iinc hC.1 hC.2.1 d hls.1 hk9 rfl hn rfl (fun ls' h' => k p e s m args below meth c r0 r H locs ls' hC hZ hW hR hlo (gH.set (i := 2) (v := .int (x + Int32.ofInt n)) hls.2 rfl h'))
theorem V_il3 (q : Nat) {a0 a1 a2 : Option Value} {t : List (Option Value)} {x : Int32} (d : decode cc pc = .ok (.iload_n 3, 1)) (hq : pc + 1 = q) (k : V l G y cc nL ret R mc ms Z post L M cells slots (a0 :: a1 :: a2 :: some (.int x) :: t) q (.int x :: st)) : V l G y cc nL ret R mc ms Z post L M cells slots (a0 :: a1 :: a2 :: some (.int x) :: t) pc (st) := by
  subst hq
  intro p e s m args below meth c r0 r H locs ls hC hZ hW hR hlo hls
  exact lv_iload_n hC.1 hC.2.1 d rfl (hls.at (i := 3) rfl) (k p e s m args below meth c r0 r H locs ls hC hZ hW hR hlo hls)
theorem V_al3 (q : Nat) {a0 a1 a2 : Option Value} {t : List (Option Value)} {x : Nat} (d : decode cc pc = .ok (.aload_n 3, 1)) (hq : pc + 1 = q) (k : V l G y cc nL ret R mc ms Z post L M cells slots (a0 :: a1 :: a2 :: some (.ref x) :: t) q (.ref x :: st)) : V l G y cc nL ret R mc ms Z post L M cells slots (a0 :: a1 :: a2 :: some (.ref x) :: t) pc (st) := by
  subst hq
  intro p e s m args below meth c r0 r H locs ls hC hZ hW hR hlo hls
  exact lv_aload_n hC.1 hC.2.1 d rfl (hls.at (i := 3) rfl) (k p e s m args below meth c r0 r H locs ls hC hZ hW hR hlo hls)
theorem V_an3 (q : Nat) {a0 a1 a2 : Option Value} {t : List (Option Value)}  (d : decode cc pc = .ok (.aload_n 3, 1)) (hq : pc + 1 = q) (k : V l G y cc nL ret R mc ms Z post L M cells slots (a0 :: a1 :: a2 :: some (.null) :: t) q (.null :: st)) : V l G y cc nL ret R mc ms Z post L M cells slots (a0 :: a1 :: a2 :: some (.null) :: t) pc (st) := by
  subst hq
  intro p e s m args below meth c r0 r H locs ls hC hZ hW hR hlo hls
  exact lv_aload_nN hC.1 hC.2.1 d rfl (hls.at (i := 3) rfl) (k p e s m args below meth c r0 r H locs ls hC hZ hW hR hlo hls)
theorem V_is3 (q : Nat) {a0 a1 a2 b : Option Value} {t : List (Option Value)} {x : Int32} (d : decode cc pc = .ok (.istore_n 3, 1)) (hn : 3 < nL) (hq : pc + 1 = q) (k : V l G y cc nL ret R mc ms Z post L M cells slots (a0 :: a1 :: a2 :: some (.int x) :: t) q st) : V l G y cc nL ret R mc ms Z post L M cells slots (a0 :: a1 :: a2 :: b :: t) pc (.int x :: st) := by
  subst hq
  intro p e s m args below meth c r0 r H locs ls hC hZ hW hR hlo hls
  exact lv_istore_n hC.1 hC.2.1 d rfl hls.1 hn rfl (fun ls' h' => k p e s m args below meth c r0 r H locs ls' hC hZ hW hR hlo (gH.set (i := 3) (v := .int x) hls.2 rfl h'))
theorem V_as3 (q : Nat) {a0 a1 a2 b : Option Value} {t : List (Option Value)} {x : Nat} (d : decode cc pc = .ok (.astore_n 3, 1)) (hn : 3 < nL) (hq : pc + 1 = q) (k : V l G y cc nL ret R mc ms Z post L M cells slots (a0 :: a1 :: a2 :: some (.ref x) :: t) q st) : V l G y cc nL ret R mc ms Z post L M cells slots (a0 :: a1 :: a2 :: b :: t) pc (.ref x :: st) := by
  subst hq
  intro p e s m args below meth c r0 r H locs ls hC hZ hW hR hlo hls
  exact lv_astore_n hC.1 hC.2.1 d rfl hls.1 hn rfl (fun ls' h' => k p e s m args below meth c r0 r H locs ls' hC hZ hW hR hlo (gH.set (i := 3) (v := .ref x) hls.2 rfl h'))
theorem V_az3 (q : Nat) {a0 a1 a2 b : Option Value} {t : List (Option Value)}  (d : decode cc pc = .ok (.astore_n 3, 1)) (hn : 3 < nL) (hq : pc + 1 = q) (k : V l G y cc nL ret R mc ms Z post L M cells slots (a0 :: a1 :: a2 :: some (.null) :: t) q st) : V l G y cc nL ret R mc ms Z post L M cells slots (a0 :: a1 :: a2 :: b :: t) pc (.null :: st) := by
  subst hq
  intro p e s m args below meth c r0 r H locs ls hC hZ hW hR hlo hls
  exact lv_astore_nN hC.1 hC.2.1 d rfl hls.1 hn rfl (fun ls' h' => k p e s m args below meth c r0 r H locs ls' hC hZ hW hR hlo (gH.set (i := 3) (v := .null) hls.2 rfl h'))
theorem V_ii3 (q : Nat) {a0 a1 a2 : Option Value} {t : List (Option Value)} {x v : Int32} {n : Int} (d : decode cc pc = .ok (.iinc 3 n, 3)) (hn : 3 < nL) (hv : Int32.ofInt n = v) (hq : pc + 3 = q) (k : V l G y cc nL ret R mc ms Z post L M cells slots (a0 :: a1 :: a2 :: some (.int (x + v)) :: t) q st) : V l G y cc nL ret R mc ms Z post L M cells slots (a0 :: a1 :: a2 :: some (.int x) :: t) pc st := by
  subst hq
  subst hv
  intro p e s m args below meth c r0 r H locs ls hC hZ hW hR hlo hls
  obtain ⟨k9, hk9⟩ := List.getElem?_of_mem (gP_mem.mpr ⟨.int x, rfl, rfl⟩ : (3, Value.int x) ∈ gP r (a0 :: a1 :: a2 :: some (.int x) :: t))
  exact lv_iinc hC.1 hC.2.1 d hls.1 hk9 rfl hn rfl (fun ls' h' => k p e s m args below meth c r0 r H locs ls' hC hZ hW hR hlo (gH.set (i := 3) (v := .int (x + Int32.ofInt n)) hls.2 rfl h'))
theorem V_il4 (q : Nat) {a0 a1 a2 a3 : Option Value} {t : List (Option Value)} {x : Int32} (d : decode cc pc = .ok (.iload 4, 2)) (hq : pc + 2 = q) (k : V l G y cc nL ret R mc ms Z post L M cells slots (a0 :: a1 :: a2 :: a3 :: some (.int x) :: t) q (.int x :: st)) : V l G y cc nL ret R mc ms Z post L M cells slots (a0 :: a1 :: a2 :: a3 :: some (.int x) :: t) pc (st) := by
  subst hq
  intro p e s m args below meth c r0 r H locs ls hC hZ hW hR hlo hls
  exact lv_iload hC.1 hC.2.1 d (hls.at (i := 4) rfl) (k p e s m args below meth c r0 r H locs ls hC hZ hW hR hlo hls)
theorem V_al4 (q : Nat) {a0 a1 a2 a3 : Option Value} {t : List (Option Value)} {x : Nat} (d : decode cc pc = .ok (.aload 4, 2)) (hq : pc + 2 = q) (k : V l G y cc nL ret R mc ms Z post L M cells slots (a0 :: a1 :: a2 :: a3 :: some (.ref x) :: t) q (.ref x :: st)) : V l G y cc nL ret R mc ms Z post L M cells slots (a0 :: a1 :: a2 :: a3 :: some (.ref x) :: t) pc (st) := by
  subst hq
  intro p e s m args below meth c r0 r H locs ls hC hZ hW hR hlo hls
  exact lv_aload hC.1 hC.2.1 d (hls.at (i := 4) rfl) (k p e s m args below meth c r0 r H locs ls hC hZ hW hR hlo hls)
theorem V_an4 (q : Nat) {a0 a1 a2 a3 : Option Value} {t : List (Option Value)}  (d : decode cc pc = .ok (.aload 4, 2)) (hq : pc + 2 = q) (k : V l G y cc nL ret R mc ms Z post L M cells slots (a0 :: a1 :: a2 :: a3 :: some (.null) :: t) q (.null :: st)) : V l G y cc nL ret R mc ms Z post L M cells slots (a0 :: a1 :: a2 :: a3 :: some (.null) :: t) pc (st) := by
  subst hq
  intro p e s m args below meth c r0 r H locs ls hC hZ hW hR hlo hls
  exact lv_aloadN hC.1 hC.2.1 d (hls.at (i := 4) rfl) (k p e s m args below meth c r0 r H locs ls hC hZ hW hR hlo hls)
theorem V_is4 (q : Nat) {a0 a1 a2 a3 b : Option Value} {t : List (Option Value)} {x : Int32} (d : decode cc pc = .ok (.istore 4, 2)) (hn : 4 < nL) (hq : pc + 2 = q) (k : V l G y cc nL ret R mc ms Z post L M cells slots (a0 :: a1 :: a2 :: a3 :: some (.int x) :: t) q st) : V l G y cc nL ret R mc ms Z post L M cells slots (a0 :: a1 :: a2 :: a3 :: b :: t) pc (.int x :: st) := by
  subst hq
  intro p e s m args below meth c r0 r H locs ls hC hZ hW hR hlo hls
  exact lv_istore hC.1 hC.2.1 d hls.1 hn rfl (fun ls' h' => k p e s m args below meth c r0 r H locs ls' hC hZ hW hR hlo (gH.set (i := 4) (v := .int x) hls.2 rfl h'))
theorem V_as4 (q : Nat) {a0 a1 a2 a3 b : Option Value} {t : List (Option Value)} {x : Nat} (d : decode cc pc = .ok (.astore 4, 2)) (hn : 4 < nL) (hq : pc + 2 = q) (k : V l G y cc nL ret R mc ms Z post L M cells slots (a0 :: a1 :: a2 :: a3 :: some (.ref x) :: t) q st) : V l G y cc nL ret R mc ms Z post L M cells slots (a0 :: a1 :: a2 :: a3 :: b :: t) pc (.ref x :: st) := by
  subst hq
  intro p e s m args below meth c r0 r H locs ls hC hZ hW hR hlo hls
  exact lv_astore hC.1 hC.2.1 d hls.1 hn rfl (fun ls' h' => k p e s m args below meth c r0 r H locs ls' hC hZ hW hR hlo (gH.set (i := 4) (v := .ref x) hls.2 rfl h'))
theorem V_az4 (q : Nat) {a0 a1 a2 a3 b : Option Value} {t : List (Option Value)}  (d : decode cc pc = .ok (.astore 4, 2)) (hn : 4 < nL) (hq : pc + 2 = q) (k : V l G y cc nL ret R mc ms Z post L M cells slots (a0 :: a1 :: a2 :: a3 :: some (.null) :: t) q st) : V l G y cc nL ret R mc ms Z post L M cells slots (a0 :: a1 :: a2 :: a3 :: b :: t) pc (.null :: st) := by
  subst hq
  intro p e s m args below meth c r0 r H locs ls hC hZ hW hR hlo hls
  exact lv_astoreN hC.1 hC.2.1 d hls.1 hn rfl (fun ls' h' => k p e s m args below meth c r0 r H locs ls' hC hZ hW hR hlo (gH.set (i := 4) (v := .null) hls.2 rfl h'))
theorem V_ii4 (q : Nat) {a0 a1 a2 a3 : Option Value} {t : List (Option Value)} {x v : Int32} {n : Int} (d : decode cc pc = .ok (.iinc 4 n, 3)) (hn : 4 < nL) (hv : Int32.ofInt n = v) (hq : pc + 3 = q) (k : V l G y cc nL ret R mc ms Z post L M cells slots (a0 :: a1 :: a2 :: a3 :: some (.int (x + v)) :: t) q st) : V l G y cc nL ret R mc ms Z post L M cells slots (a0 :: a1 :: a2 :: a3 :: some (.int x) :: t) pc st := by
  subst hq
  subst hv
  intro p e s m args below meth c r0 r H locs ls hC hZ hW hR hlo hls
  obtain ⟨k9, hk9⟩ := List.getElem?_of_mem (gP_mem.mpr ⟨.int x, rfl, rfl⟩ : (4, Value.int x) ∈ gP r (a0 :: a1 :: a2 :: a3 :: some (.int x) :: t))
  exact lv_iinc hC.1 hC.2.1 d hls.1 hk9 rfl hn rfl (fun ls' h' => k p e s m args below meth c r0 r H locs ls' hC hZ hW hR hlo (gH.set (i := 4) (v := .int (x + Int32.ofInt n)) hls.2 rfl h'))
theorem V_il5 (q : Nat) {a0 a1 a2 a3 a4 : Option Value} {t : List (Option Value)} {x : Int32} (d : decode cc pc = .ok (.iload 5, 2)) (hq : pc + 2 = q) (k : V l G y cc nL ret R mc ms Z post L M cells slots (a0 :: a1 :: a2 :: a3 :: a4 :: some (.int x) :: t) q (.int x :: st)) : V l G y cc nL ret R mc ms Z post L M cells slots (a0 :: a1 :: a2 :: a3 :: a4 :: some (.int x) :: t) pc (st) := by
  subst hq
  intro p e s m args below meth c r0 r H locs ls hC hZ hW hR hlo hls
  exact lv_iload hC.1 hC.2.1 d (hls.at (i := 5) rfl) (k p e s m args below meth c r0 r H locs ls hC hZ hW hR hlo hls)
theorem V_al5 (q : Nat) {a0 a1 a2 a3 a4 : Option Value} {t : List (Option Value)} {x : Nat} (d : decode cc pc = .ok (.aload 5, 2)) (hq : pc + 2 = q) (k : V l G y cc nL ret R mc ms Z post L M cells slots (a0 :: a1 :: a2 :: a3 :: a4 :: some (.ref x) :: t) q (.ref x :: st)) : V l G y cc nL ret R mc ms Z post L M cells slots (a0 :: a1 :: a2 :: a3 :: a4 :: some (.ref x) :: t) pc (st) := by
  subst hq
  intro p e s m args below meth c r0 r H locs ls hC hZ hW hR hlo hls
  exact lv_aload hC.1 hC.2.1 d (hls.at (i := 5) rfl) (k p e s m args below meth c r0 r H locs ls hC hZ hW hR hlo hls)
theorem V_an5 (q : Nat) {a0 a1 a2 a3 a4 : Option Value} {t : List (Option Value)}  (d : decode cc pc = .ok (.aload 5, 2)) (hq : pc + 2 = q) (k : V l G y cc nL ret R mc ms Z post L M cells slots (a0 :: a1 :: a2 :: a3 :: a4 :: some (.null) :: t) q (.null :: st)) : V l G y cc nL ret R mc ms Z post L M cells slots (a0 :: a1 :: a2 :: a3 :: a4 :: some (.null) :: t) pc (st) := by
  subst hq
  intro p e s m args below meth c r0 r H locs ls hC hZ hW hR hlo hls
  exact lv_aloadN hC.1 hC.2.1 d (hls.at (i := 5) rfl) (k p e s m args below meth c r0 r H locs ls hC hZ hW hR hlo hls)
theorem V_is5 (q : Nat) {a0 a1 a2 a3 a4 b : Option Value} {t : List (Option Value)} {x : Int32} (d : decode cc pc = .ok (.istore 5, 2)) (hn : 5 < nL) (hq : pc + 2 = q) (k : V l G y cc nL ret R mc ms Z post L M cells slots (a0 :: a1 :: a2 :: a3 :: a4 :: some (.int x) :: t) q st) : V l G y cc nL ret R mc ms Z post L M cells slots (a0 :: a1 :: a2 :: a3 :: a4 :: b :: t) pc (.int x :: st) := by
  subst hq
  intro p e s m args below meth c r0 r H locs ls hC hZ hW hR hlo hls
  exact lv_istore hC.1 hC.2.1 d hls.1 hn rfl (fun ls' h' => k p e s m args below meth c r0 r H locs ls' hC hZ hW hR hlo (gH.set (i := 5) (v := .int x) hls.2 rfl h'))
theorem V_as5 (q : Nat) {a0 a1 a2 a3 a4 b : Option Value} {t : List (Option Value)} {x : Nat} (d : decode cc pc = .ok (.astore 5, 2)) (hn : 5 < nL) (hq : pc + 2 = q) (k : V l G y cc nL ret R mc ms Z post L M cells slots (a0 :: a1 :: a2 :: a3 :: a4 :: some (.ref x) :: t) q st) : V l G y cc nL ret R mc ms Z post L M cells slots (a0 :: a1 :: a2 :: a3 :: a4 :: b :: t) pc (.ref x :: st) := by
  subst hq
  intro p e s m args below meth c r0 r H locs ls hC hZ hW hR hlo hls
  exact lv_astore hC.1 hC.2.1 d hls.1 hn rfl (fun ls' h' => k p e s m args below meth c r0 r H locs ls' hC hZ hW hR hlo (gH.set (i := 5) (v := .ref x) hls.2 rfl h'))
theorem V_az5 (q : Nat) {a0 a1 a2 a3 a4 b : Option Value} {t : List (Option Value)}  (d : decode cc pc = .ok (.astore 5, 2)) (hn : 5 < nL) (hq : pc + 2 = q) (k : V l G y cc nL ret R mc ms Z post L M cells slots (a0 :: a1 :: a2 :: a3 :: a4 :: some (.null) :: t) q st) : V l G y cc nL ret R mc ms Z post L M cells slots (a0 :: a1 :: a2 :: a3 :: a4 :: b :: t) pc (.null :: st) := by
  subst hq
  intro p e s m args below meth c r0 r H locs ls hC hZ hW hR hlo hls
  exact lv_astoreN hC.1 hC.2.1 d hls.1 hn rfl (fun ls' h' => k p e s m args below meth c r0 r H locs ls' hC hZ hW hR hlo (gH.set (i := 5) (v := .null) hls.2 rfl h'))
theorem V_ii5 (q : Nat) {a0 a1 a2 a3 a4 : Option Value} {t : List (Option Value)} {x v : Int32} {n : Int} (d : decode cc pc = .ok (.iinc 5 n, 3)) (hn : 5 < nL) (hv : Int32.ofInt n = v) (hq : pc + 3 = q) (k : V l G y cc nL ret R mc ms Z post L M cells slots (a0 :: a1 :: a2 :: a3 :: a4 :: some (.int (x + v)) :: t) q st) : V l G y cc nL ret R mc ms Z post L M cells slots (a0 :: a1 :: a2 :: a3 :: a4 :: some (.int x) :: t) pc st := by
  subst hq
  subst hv
  intro p e s m args below meth c r0 r H locs ls hC hZ hW hR hlo hls
  obtain ⟨k9, hk9⟩ := List.getElem?_of_mem (gP_mem.mpr ⟨.int x, rfl, rfl⟩ : (5, Value.int x) ∈ gP r (a0 :: a1 :: a2 :: a3 :: a4 :: some (.int x) :: t))
  exact lv_iinc hC.1 hC.2.1 d hls.1 hk9 rfl hn rfl (fun ls' h' => k p e s m args below meth c r0 r H locs ls' hC hZ hW hR hlo (gH.set (i := 5) (v := .int (x + Int32.ofInt n)) hls.2 rfl h'))
theorem V_il6 (q : Nat) {a0 a1 a2 a3 a4 a5 : Option Value} {t : List (Option Value)} {x : Int32} (d : decode cc pc = .ok (.iload 6, 2)) (hq : pc + 2 = q) (k : V l G y cc nL ret R mc ms Z post L M cells slots (a0 :: a1 :: a2 :: a3 :: a4 :: a5 :: some (.int x) :: t) q (.int x :: st)) : V l G y cc nL ret R mc ms Z post L M cells slots (a0 :: a1 :: a2 :: a3 :: a4 :: a5 :: some (.int x) :: t) pc (st) := by
  subst hq
  intro p e s m args below meth c r0 r H locs ls hC hZ hW hR hlo hls
  exact lv_iload hC.1 hC.2.1 d (hls.at (i := 6) rfl) (k p e s m args below meth c r0 r H locs ls hC hZ hW hR hlo hls)
theorem V_al6 (q : Nat) {a0 a1 a2 a3 a4 a5 : Option Value} {t : List (Option Value)} {x : Nat} (d : decode cc pc = .ok (.aload 6, 2)) (hq : pc + 2 = q) (k : V l G y cc nL ret R mc ms Z post L M cells slots (a0 :: a1 :: a2 :: a3 :: a4 :: a5 :: some (.ref x) :: t) q (.ref x :: st)) : V l G y cc nL ret R mc ms Z post L M cells slots (a0 :: a1 :: a2 :: a3 :: a4 :: a5 :: some (.ref x) :: t) pc (st) := by
  subst hq
  intro p e s m args below meth c r0 r H locs ls hC hZ hW hR hlo hls
  exact lv_aload hC.1 hC.2.1 d (hls.at (i := 6) rfl) (k p e s m args below meth c r0 r H locs ls hC hZ hW hR hlo hls)
theorem V_an6 (q : Nat) {a0 a1 a2 a3 a4 a5 : Option Value} {t : List (Option Value)}  (d : decode cc pc = .ok (.aload 6, 2)) (hq : pc + 2 = q) (k : V l G y cc nL ret R mc ms Z post L M cells slots (a0 :: a1 :: a2 :: a3 :: a4 :: a5 :: some (.null) :: t) q (.null :: st)) : V l G y cc nL ret R mc ms Z post L M cells slots (a0 :: a1 :: a2 :: a3 :: a4 :: a5 :: some (.null) :: t) pc (st) := by
  subst hq
  intro p e s m args below meth c r0 r H locs ls hC hZ hW hR hlo hls
  exact lv_aloadN hC.1 hC.2.1 d (hls.at (i := 6) rfl) (k p e s m args below meth c r0 r H locs ls hC hZ hW hR hlo hls)
theorem V_is6 (q : Nat) {a0 a1 a2 a3 a4 a5 b : Option Value} {t : List (Option Value)} {x : Int32} (d : decode cc pc = .ok (.istore 6, 2)) (hn : 6 < nL) (hq : pc + 2 = q) (k : V l G y cc nL ret R mc ms Z post L M cells slots (a0 :: a1 :: a2 :: a3 :: a4 :: a5 :: some (.int x) :: t) q st) : V l G y cc nL ret R mc ms Z post L M cells slots (a0 :: a1 :: a2 :: a3 :: a4 :: a5 :: b :: t) pc (.int x :: st) := by
  subst hq
  intro p e s m args below meth c r0 r H locs ls hC hZ hW hR hlo hls
  exact lv_istore hC.1 hC.2.1 d hls.1 hn rfl (fun ls' h' => k p e s m args below meth c r0 r H locs ls' hC hZ hW hR hlo (gH.set (i := 6) (v := .int x) hls.2 rfl h'))
theorem V_as6 (q : Nat) {a0 a1 a2 a3 a4 a5 b : Option Value} {t : List (Option Value)} {x : Nat} (d : decode cc pc = .ok (.astore 6, 2)) (hn : 6 < nL) (hq : pc + 2 = q) (k : V l G y cc nL ret R mc ms Z post L M cells slots (a0 :: a1 :: a2 :: a3 :: a4 :: a5 :: some (.ref x) :: t) q st) : V l G y cc nL ret R mc ms Z post L M cells slots (a0 :: a1 :: a2 :: a3 :: a4 :: a5 :: b :: t) pc (.ref x :: st) := by
  subst hq
  intro p e s m args below meth c r0 r H locs ls hC hZ hW hR hlo hls
  exact lv_astore hC.1 hC.2.1 d hls.1 hn rfl (fun ls' h' => k p e s m args below meth c r0 r H locs ls' hC hZ hW hR hlo (gH.set (i := 6) (v := .ref x) hls.2 rfl h'))
theorem V_az6 (q : Nat) {a0 a1 a2 a3 a4 a5 b : Option Value} {t : List (Option Value)}  (d : decode cc pc = .ok (.astore 6, 2)) (hn : 6 < nL) (hq : pc + 2 = q) (k : V l G y cc nL ret R mc ms Z post L M cells slots (a0 :: a1 :: a2 :: a3 :: a4 :: a5 :: some (.null) :: t) q st) : V l G y cc nL ret R mc ms Z post L M cells slots (a0 :: a1 :: a2 :: a3 :: a4 :: a5 :: b :: t) pc (.null :: st) := by
  subst hq
  intro p e s m args below meth c r0 r H locs ls hC hZ hW hR hlo hls
  exact lv_astoreN hC.1 hC.2.1 d hls.1 hn rfl (fun ls' h' => k p e s m args below meth c r0 r H locs ls' hC hZ hW hR hlo (gH.set (i := 6) (v := .null) hls.2 rfl h'))
theorem V_ii6 (q : Nat) {a0 a1 a2 a3 a4 a5 : Option Value} {t : List (Option Value)} {x v : Int32} {n : Int} (d : decode cc pc = .ok (.iinc 6 n, 3)) (hn : 6 < nL) (hv : Int32.ofInt n = v) (hq : pc + 3 = q) (k : V l G y cc nL ret R mc ms Z post L M cells slots (a0 :: a1 :: a2 :: a3 :: a4 :: a5 :: some (.int (x + v)) :: t) q st) : V l G y cc nL ret R mc ms Z post L M cells slots (a0 :: a1 :: a2 :: a3 :: a4 :: a5 :: some (.int x) :: t) pc st := by
  subst hq
  subst hv
  intro p e s m args below meth c r0 r H locs ls hC hZ hW hR hlo hls
  obtain ⟨k9, hk9⟩ := List.getElem?_of_mem (gP_mem.mpr ⟨.int x, rfl, rfl⟩ : (6, Value.int x) ∈ gP r (a0 :: a1 :: a2 :: a3 :: a4 :: a5 :: some (.int x) :: t))
  exact lv_iinc hC.1 hC.2.1 d hls.1 hk9 rfl hn rfl (fun ls' h' => k p e s m args below meth c r0 r H locs ls' hC hZ hW hR hlo (gH.set (i := 6) (v := .int (x + Int32.ofInt n)) hls.2 rfl h'))
theorem V_il7 (q : Nat) {a0 a1 a2 a3 a4 a5 a6 : Option Value} {t : List (Option Value)} {x : Int32} (d : decode cc pc = .ok (.iload 7, 2)) (hq : pc + 2 = q) (k : V l G y cc nL ret R mc ms Z post L M cells slots (a0 :: a1 :: a2 :: a3 :: a4 :: a5 :: a6 :: some (.int x) :: t) q (.int x :: st)) : V l G y cc nL ret R mc ms Z post L M cells slots (a0 :: a1 :: a2 :: a3 :: a4 :: a5 :: a6 :: some (.int x) :: t) pc (st) := by
  subst hq
  intro p e s m args below meth c r0 r H locs ls hC hZ hW hR hlo hls
  exact lv_iload hC.1 hC.2.1 d (hls.at (i := 7) rfl) (k p e s m args below meth c r0 r H locs ls hC hZ hW hR hlo hls)
theorem V_al7 (q : Nat) {a0 a1 a2 a3 a4 a5 a6 : Option Value} {t : List (Option Value)} {x : Nat} (d : decode cc pc = .ok (.aload 7, 2)) (hq : pc + 2 = q) (k : V l G y cc nL ret R mc ms Z post L M cells slots (a0 :: a1 :: a2 :: a3 :: a4 :: a5 :: a6 :: some (.ref x) :: t) q (.ref x :: st)) : V l G y cc nL ret R mc ms Z post L M cells slots (a0 :: a1 :: a2 :: a3 :: a4 :: a5 :: a6 :: some (.ref x) :: t) pc (st) := by
  subst hq
  intro p e s m args below meth c r0 r H locs ls hC hZ hW hR hlo hls
  exact lv_aload hC.1 hC.2.1 d (hls.at (i := 7) rfl) (k p e s m args below meth c r0 r H locs ls hC hZ hW hR hlo hls)
theorem V_an7 (q : Nat) {a0 a1 a2 a3 a4 a5 a6 : Option Value} {t : List (Option Value)}  (d : decode cc pc = .ok (.aload 7, 2)) (hq : pc + 2 = q) (k : V l G y cc nL ret R mc ms Z post L M cells slots (a0 :: a1 :: a2 :: a3 :: a4 :: a5 :: a6 :: some (.null) :: t) q (.null :: st)) : V l G y cc nL ret R mc ms Z post L M cells slots (a0 :: a1 :: a2 :: a3 :: a4 :: a5 :: a6 :: some (.null) :: t) pc (st) := by
  subst hq
  intro p e s m args below meth c r0 r H locs ls hC hZ hW hR hlo hls
  exact lv_aloadN hC.1 hC.2.1 d (hls.at (i := 7) rfl) (k p e s m args below meth c r0 r H locs ls hC hZ hW hR hlo hls)
theorem V_is7 (q : Nat) {a0 a1 a2 a3 a4 a5 a6 b : Option Value} {t : List (Option Value)} {x : Int32} (d : decode cc pc = .ok (.istore 7, 2)) (hn : 7 < nL) (hq : pc + 2 = q) (k : V l G y cc nL ret R mc ms Z post L M cells slots (a0 :: a1 :: a2 :: a3 :: a4 :: a5 :: a6 :: some (.int x) :: t) q st) : V l G y cc nL ret R mc ms Z post L M cells slots (a0 :: a1 :: a2 :: a3 :: a4 :: a5 :: a6 :: b :: t) pc (.int x :: st) := by
  subst hq
  intro p e s m args below meth c r0 r H locs ls hC hZ hW hR hlo hls
  exact lv_istore hC.1 hC.2.1 d hls.1 hn rfl (fun ls' h' => k p e s m args below meth c r0 r H locs ls' hC hZ hW hR hlo (gH.set (i := 7) (v := .int x) hls.2 rfl h'))
theorem V_as7 (q : Nat) {a0 a1 a2 a3 a4 a5 a6 b : Option Value} {t : List (Option Value)} {x : Nat} (d : decode cc pc = .ok (.astore 7, 2)) (hn : 7 < nL) (hq : pc + 2 = q) (k : V l G y cc nL ret R mc ms Z post L M cells slots (a0 :: a1 :: a2 :: a3 :: a4 :: a5 :: a6 :: some (.ref x) :: t) q st) : V l G y cc nL ret R mc ms Z post L M cells slots (a0 :: a1 :: a2 :: a3 :: a4 :: a5 :: a6 :: b :: t) pc (.ref x :: st) := by
  subst hq
  intro p e s m args below meth c r0 r H locs ls hC hZ hW hR hlo hls
  exact lv_astore hC.1 hC.2.1 d hls.1 hn rfl (fun ls' h' => k p e s m args below meth c r0 r H locs ls' hC hZ hW hR hlo (gH.set (i := 7) (v := .ref x) hls.2 rfl h'))
theorem V_az7 (q : Nat) {a0 a1 a2 a3 a4 a5 a6 b : Option Value} {t : List (Option Value)}  (d : decode cc pc = .ok (.astore 7, 2)) (hn : 7 < nL) (hq : pc + 2 = q) (k : V l G y cc nL ret R mc ms Z post L M cells slots (a0 :: a1 :: a2 :: a3 :: a4 :: a5 :: a6 :: some (.null) :: t) q st) : V l G y cc nL ret R mc ms Z post L M cells slots (a0 :: a1 :: a2 :: a3 :: a4 :: a5 :: a6 :: b :: t) pc (.null :: st) := by
  subst hq
  intro p e s m args below meth c r0 r H locs ls hC hZ hW hR hlo hls
  exact lv_astoreN hC.1 hC.2.1 d hls.1 hn rfl (fun ls' h' => k p e s m args below meth c r0 r H locs ls' hC hZ hW hR hlo (gH.set (i := 7) (v := .null) hls.2 rfl h'))
theorem V_ii7 (q : Nat) {a0 a1 a2 a3 a4 a5 a6 : Option Value} {t : List (Option Value)} {x v : Int32} {n : Int} (d : decode cc pc = .ok (.iinc 7 n, 3)) (hn : 7 < nL) (hv : Int32.ofInt n = v) (hq : pc + 3 = q) (k : V l G y cc nL ret R mc ms Z post L M cells slots (a0 :: a1 :: a2 :: a3 :: a4 :: a5 :: a6 :: some (.int (x + v)) :: t) q st) : V l G y cc nL ret R mc ms Z post L M cells slots (a0 :: a1 :: a2 :: a3 :: a4 :: a5 :: a6 :: some (.int x) :: t) pc st := by
  subst hq
  subst hv
  intro p e s m args below meth c r0 r H locs ls hC hZ hW hR hlo hls
  obtain ⟨k9, hk9⟩ := List.getElem?_of_mem (gP_mem.mpr ⟨.int x, rfl, rfl⟩ : (7, Value.int x) ∈ gP r (a0 :: a1 :: a2 :: a3 :: a4 :: a5 :: a6 :: some (.int x) :: t))
  exact lv_iinc hC.1 hC.2.1 d hls.1 hk9 rfl hn rfl (fun ls' h' => k p e s m args below meth c r0 r H locs ls' hC hZ hW hR hlo (gH.set (i := 7) (v := .int (x + Int32.ofInt n)) hls.2 rfl h'))
theorem V_il8 (q : Nat) {a0 a1 a2 a3 a4 a5 a6 a7 : Option Value} {t : List (Option Value)} {x : Int32} (d : decode cc pc = .ok (.iload 8, 2)) (hq : pc + 2 = q) (k : V l G y cc nL ret R mc ms Z post L M cells slots (a0 :: a1 :: a2 :: a3 :: a4 :: a5 :: a6 :: a7 :: some (.int x) :: t) q (.int x :: st)) : V l G y cc nL ret R mc ms Z post L M cells slots (a0 :: a1 :: a2 :: a3 :: a4 :: a5 :: a6 :: a7 :: some (.int x) :: t) pc (st) := by
  subst hq
  intro p e s m args below meth c r0 r H locs ls hC hZ hW hR hlo hls
  exact lv_iload hC.1 hC.2.1 d (hls.at (i := 8) rfl) (k p e s m args below meth c r0 r H locs ls hC hZ hW hR hlo hls)
theorem V_al8 (q : Nat) {a0 a1 a2 a3 a4 a5 a6 a7 : Option Value} {t : List (Option Value)} {x : Nat} (d : decode cc pc = .ok (.aload 8, 2)) (hq : pc + 2 = q) (k : V l G y cc nL ret R mc ms Z post L M cells slots (a0 :: a1 :: a2 :: a3 :: a4 :: a5 :: a6 :: a7 :: some (.ref x) :: t) q (.ref x :: st)) : V l G y cc nL ret R mc ms Z post L M cells slots (a0 :: a1 :: a2 :: a3 :: a4 :: a5 :: a6 :: a7 :: some (.ref x) :: t) pc (st) := by
  subst hq
  intro p e s m args below meth c r0 r H locs ls hC hZ hW hR hlo hls
  exact lv_aload hC.1 hC.2.1 d (hls.at (i := 8) rfl) (k p e s m args below meth c r0 r H locs ls hC hZ hW hR hlo hls)
theorem V_an8 (q : Nat) {a0 a1 a2 a3 a4 a5 a6 a7 : Option Value} {t : List (Option Value)}  (d : decode cc pc = .ok (.aload 8, 2)) (hq : pc + 2 = q) (k : V l G y cc nL ret R mc ms Z post L M cells slots (a0 :: a1 :: a2 :: a3 :: a4 :: a5 :: a6 :: a7 :: some (.null) :: t) q (.null :: st)) : V l G y cc nL ret R mc ms Z post L M cells slots (a0 :: a1 :: a2 :: a3 :: a4 :: a5 :: a6 :: a7 :: some (.null) :: t) pc (st) := by
  subst hq
  intro p e s m args below meth c r0 r H locs ls hC hZ hW hR hlo hls
  exact lv_aloadN hC.1 hC.2.1 d (hls.at (i := 8) rfl) (k p e s m args below meth c r0 r H locs ls hC hZ hW hR hlo hls)
theorem V_is8 (q : Nat) {a0 a1 a2 a3 a4 a5 a6 a7 b : Option Value} {t : List (Option Value)} {x : Int32} (d : decode cc pc = .ok (.istore 8, 2)) (hn : 8 < nL) (hq : pc + 2 = q) (k : V l G y cc nL ret R mc ms Z post L M cells slots (a0 :: a1 :: a2 :: a3 :: a4 :: a5 :: a6 :: a7 :: some (.int x) :: t) q st) : V l G y cc nL ret R mc ms Z post L M cells slots (a0 :: a1 :: a2 :: a3 :: a4 :: a5 :: a6 :: a7 :: b :: t) pc (.int x :: st) := by
  subst hq
  intro p e s m args below meth c r0 r H locs ls hC hZ hW hR hlo hls
  exact lv_istore hC.1 hC.2.1 d hls.1 hn rfl (fun ls' h' => k p e s m args below meth c r0 r H locs ls' hC hZ hW hR hlo (gH.set (i := 8) (v := .int x) hls.2 rfl h'))
theorem V_as8 (q : Nat) {a0 a1 a2 a3 a4 a5 a6 a7 b : Option Value} {t : List (Option Value)} {x : Nat} (d : decode cc pc = .ok (.astore 8, 2)) (hn : 8 < nL) (hq : pc + 2 = q) (k : V l G y cc nL ret R mc ms Z post L M cells slots (a0 :: a1 :: a2 :: a3 :: a4 :: a5 :: a6 :: a7 :: some (.ref x) :: t) q st) : V l G y cc nL ret R mc ms Z post L M cells slots (a0 :: a1 :: a2 :: a3 :: a4 :: a5 :: a6 :: a7 :: b :: t) pc (.ref x :: st) := by
  subst hq
  intro p e s m args below meth c r0 r H locs ls hC hZ hW hR hlo hls
  exact lv_astore hC.1 hC.2.1 d hls.1 hn rfl (fun ls' h' => k p e s m args below meth c r0 r H locs ls' hC hZ hW hR hlo (gH.set (i := 8) (v := .ref x) hls.2 rfl h'))
theorem V_az8 (q : Nat) {a0 a1 a2 a3 a4 a5 a6 a7 b : Option Value} {t : List (Option Value)}  (d : decode cc pc = .ok (.astore 8, 2)) (hn : 8 < nL) (hq : pc + 2 = q) (k : V l G y cc nL ret R mc ms Z post L M cells slots (a0 :: a1 :: a2 :: a3 :: a4 :: a5 :: a6 :: a7 :: some (.null) :: t) q st) : V l G y cc nL ret R mc ms Z post L M cells slots (a0 :: a1 :: a2 :: a3 :: a4 :: a5 :: a6 :: a7 :: b :: t) pc (.null :: st) := by
  subst hq
  intro p e s m args below meth c r0 r H locs ls hC hZ hW hR hlo hls
  exact lv_astoreN hC.1 hC.2.1 d hls.1 hn rfl (fun ls' h' => k p e s m args below meth c r0 r H locs ls' hC hZ hW hR hlo (gH.set (i := 8) (v := .null) hls.2 rfl h'))
theorem V_ii8 (q : Nat) {a0 a1 a2 a3 a4 a5 a6 a7 : Option Value} {t : List (Option Value)} {x v : Int32} {n : Int} (d : decode cc pc = .ok (.iinc 8 n, 3)) (hn : 8 < nL) (hv : Int32.ofInt n = v) (hq : pc + 3 = q) (k : V l G y cc nL ret R mc ms Z post L M cells slots (a0 :: a1 :: a2 :: a3 :: a4 :: a5 :: a6 :: a7 :: some (.int (x + v)) :: t) q st) : V l G y cc nL ret R mc ms Z post L M cells slots (a0 :: a1 :: a2 :: a3 :: a4 :: a5 :: a6 :: a7 :: some (.int x) :: t) pc st := by
  subst hq
  subst hv
  intro p e s m args below meth c r0 r H locs ls hC hZ hW hR hlo hls
  obtain ⟨k9, hk9⟩ := List.getElem?_of_mem (gP_mem.mpr ⟨.int x, rfl, rfl⟩ : (8, Value.int x) ∈ gP r (a0 :: a1 :: a2 :: a3 :: a4 :: a5 :: a6 :: a7 :: some (.int x) :: t))
  exact lv_iinc hC.1 hC.2.1 d hls.1 hk9 rfl hn rfl (fun ls' h' => k p e s m args below meth c r0 r H locs ls' hC hZ hW hR hlo (gH.set (i := 8) (v := .int (x + Int32.ofInt n)) hls.2 rfl h'))
theorem V_il9 (q : Nat) {a0 a1 a2 a3 a4 a5 a6 a7 a8 : Option Value} {t : List (Option Value)} {x : Int32} (d : decode cc pc = .ok (.iload 9, 2)) (hq : pc + 2 = q) (k : V l G y cc nL ret R mc ms Z post L M cells slots (a0 :: a1 :: a2 :: a3 :: a4 :: a5 :: a6 :: a7 :: a8 :: some (.int x) :: t) q (.int x :: st)) : V l G y cc nL ret R mc ms Z post L M cells slots (a0 :: a1 :: a2 :: a3 :: a4 :: a5 :: a6 :: a7 :: a8 :: some (.int x) :: t) pc (st) := by
  subst hq
  intro p e s m args below meth c r0 r H locs ls hC hZ hW hR hlo hls
  exact lv_iload hC.1 hC.2.1 d (hls.at (i := 9) rfl) (k p e s m args below meth c r0 r H locs ls hC hZ hW hR hlo hls)
theorem V_al9 (q : Nat) {a0 a1 a2 a3 a4 a5 a6 a7 a8 : Option Value} {t : List (Option Value)} {x : Nat} (d : decode cc pc = .ok (.aload 9, 2)) (hq : pc + 2 = q) (k : V l G y cc nL ret R mc ms Z post L M cells slots (a0 :: a1 :: a2 :: a3 :: a4 :: a5 :: a6 :: a7 :: a8 :: some (.ref x) :: t) q (.ref x :: st)) : V l G y cc nL ret R mc ms Z post L M cells slots (a0 :: a1 :: a2 :: a3 :: a4 :: a5 :: a6 :: a7 :: a8 :: some (.ref x) :: t) pc (st) := by
  subst hq
  intro p e s m args below meth c r0 r H locs ls hC hZ hW hR hlo hls
  exact lv_aload hC.1 hC.2.1 d (hls.at (i := 9) rfl) (k p e s m args below meth c r0 r H locs ls hC hZ hW hR hlo hls)
theorem V_an9 (q : Nat) {a0 a1 a2 a3 a4 a5 a6 a7 a8 : Option Value} {t : List (Option Value)}  (d : decode cc pc = .ok (.aload 9, 2)) (hq : pc + 2 = q) (k : V l G y cc nL ret R mc ms Z post L M cells slots (a0 :: a1 :: a2 :: a3 :: a4 :: a5 :: a6 :: a7 :: a8 :: some (.null) :: t) q (.null :: st)) : V l G y cc nL ret R mc ms Z post L M cells slots (a0 :: a1 :: a2 :: a3 :: a4 :: a5 :: a6 :: a7 :: a8 :: some (.null) :: t) pc (st) := by
  subst hq
  intro p e s m args below meth c r0 r H locs ls hC hZ hW hR hlo hls
  exact lv_aloadN hC.1 hC.2.1 d (hls.at (i := 9) rfl) (k p e s m args below meth c r0 r H locs ls hC hZ hW hR hlo hls)
theorem V_is9 (q : Nat) {a0 a1 a2 a3 a4 a5 a6 a7 a8 b : Option Value} {t : List (Option Value)} {x : Int32} (d : decode cc pc = .ok (.istore 9, 2)) (hn : 9 < nL) (hq : pc + 2 = q) (k : V l G y cc nL ret R mc ms Z post L M cells slots (a0 :: a1 :: a2 :: a3 :: a4 :: a5 :: a6 :: a7 :: a8 :: some (.int x) :: t) q st) : V l G y cc nL ret R mc ms Z post L M cells slots (a0 :: a1 :: a2 :: a3 :: a4 :: a5 :: a6 :: a7 :: a8 :: b :: t) pc (.int x :: st) := by
  subst hq
  intro p e s m args below meth c r0 r H locs ls hC hZ hW hR hlo hls
  exact lv_istore hC.1 hC.2.1 d hls.1 hn rfl (fun ls' h' => k p e s m args below meth c r0 r H locs ls' hC hZ hW hR hlo (gH.set (i := 9) (v := .int x) hls.2 rfl h'))
theorem V_as9 (q : Nat) {a0 a1 a2 a3 a4 a5 a6 a7 a8 b : Option Value} {t : List (Option Value)} {x : Nat} (d : decode cc pc = .ok (.astore 9, 2)) (hn : 9 < nL) (hq : pc + 2 = q) (k : V l G y cc nL ret R mc ms Z post L M cells slots (a0 :: a1 :: a2 :: a3 :: a4 :: a5 :: a6 :: a7 :: a8 :: some (.ref x) :: t) q st) : V l G y cc nL ret R mc ms Z post L M cells slots (a0 :: a1 :: a2 :: a3 :: a4 :: a5 :: a6 :: a7 :: a8 :: b :: t) pc (.ref x :: st) := by
  subst hq
  intro p e s m args below meth c r0 r H locs ls hC hZ hW hR hlo hls
  exact lv_astore hC.1 hC.2.1 d hls.1 hn rfl (fun ls' h' => k p e s m args below meth c r0 r H locs ls' hC hZ hW hR hlo (gH.set (i := 9) (v := .ref x) hls.2 rfl h'))
theorem V_az9 (q : Nat) {a0 a1 a2 a3 a4 a5 a6 a7 a8 b : Option Value} {t : List (Option Value)}  (d : decode cc pc = .ok (.astore 9, 2)) (hn : 9 < nL) (hq : pc + 2 = q) (k : V l G y cc nL ret R mc ms Z post L M cells slots (a0 :: a1 :: a2 :: a3 :: a4 :: a5 :: a6 :: a7 :: a8 :: some (.null) :: t) q st) : V l G y cc nL ret R mc ms Z post L M cells slots (a0 :: a1 :: a2 :: a3 :: a4 :: a5 :: a6 :: a7 :: a8 :: b :: t) pc (.null :: st) := by
  subst hq
  intro p e s m args below meth c r0 r H locs ls hC hZ hW hR hlo hls
  exact lv_astoreN hC.1 hC.2.1 d hls.1 hn rfl (fun ls' h' => k p e s m args below meth c r0 r H locs ls' hC hZ hW hR hlo (gH.set (i := 9) (v := .null) hls.2 rfl h'))
theorem V_ii9 (q : Nat) {a0 a1 a2 a3 a4 a5 a6 a7 a8 : Option Value} {t : List (Option Value)} {x v : Int32} {n : Int} (d : decode cc pc = .ok (.iinc 9 n, 3)) (hn : 9 < nL) (hv : Int32.ofInt n = v) (hq : pc + 3 = q) (k : V l G y cc nL ret R mc ms Z post L M cells slots (a0 :: a1 :: a2 :: a3 :: a4 :: a5 :: a6 :: a7 :: a8 :: some (.int (x + v)) :: t) q st) : V l G y cc nL ret R mc ms Z post L M cells slots (a0 :: a1 :: a2 :: a3 :: a4 :: a5 :: a6 :: a7 :: a8 :: some (.int x) :: t) pc st := by
  subst hq
  subst hv
  intro p e s m args below meth c r0 r H locs ls hC hZ hW hR hlo hls
  obtain ⟨k9, hk9⟩ := List.getElem?_of_mem (gP_mem.mpr ⟨.int x, rfl, rfl⟩ : (9, Value.int x) ∈ gP r (a0 :: a1 :: a2 :: a3 :: a4 :: a5 :: a6 :: a7 :: a8 :: some (.int x) :: t))
  exact lv_iinc hC.1 hC.2.1 d hls.1 hk9 rfl hn rfl (fun ls' h' => k p e s m args below meth c r0 r H locs ls' hC hZ hW hR hlo (gH.set (i := 9) (v := .int (x + Int32.ofInt n)) hls.2 rfl h'))
theorem V_il10 (q : Nat) {a0 a1 a2 a3 a4 a5 a6 a7 a8 a9 : Option Value} {t : List (Option Value)} {x : Int32} (d : decode cc pc = .ok (.iload 10, 2)) (hq : pc + 2 = q) (k : V l G y cc nL ret R mc ms Z post L M cells slots (a0 :: a1 :: a2 :: a3 :: a4 :: a5 :: a6 :: a7 :: a8 :: a9 :: some (.int x) :: t) q (.int x :: st)) : V l G y cc nL ret R mc ms Z post L M cells slots (a0 :: a1 :: a2 :: a3 :: a4 :: a5 :: a6 :: a7 :: a8 :: a9 :: some (.int x) :: t) pc (st) := by
  subst hq
  intro p e s m args below meth c r0 r H locs ls hC hZ hW hR hlo hls
  exact lv_iload hC.1 hC.2.1 d (hls.at (i := 10) rfl) (k p e s m args below meth c r0 r H locs ls hC hZ hW hR hlo hls)
theorem V_al10 (q : Nat) {a0 a1 a2 a3 a4 a5 a6 a7 a8 a9 : Option Value} {t : List (Option Value)} {x : Nat} (d : decode cc pc = .ok (.aload 10, 2)) (hq : pc + 2 = q) (k : V l G y cc nL ret R mc ms Z post L M cells slots (a0 :: a1 :: a2 :: a3 :: a4 :: a5 :: a6 :: a7 :: a8 :: a9 :: some (.ref x) :: t) q (.ref x :: st)) : V l G y cc nL ret R mc ms Z post L M cells slots (a0 :: a1 :: a2 :: a3 :: a4 :: a5 :: a6 :: a7 :: a8 :: a9 :: some (.ref x) :: t) pc (st) := by
  subst hq
  intro p e s m args below meth c r0 r H locs ls hC hZ hW hR hlo hls
  exact lv_aload hC.1 hC.2.1 d (hls.at (i := 10) rfl) (k p e s m args below meth c r0 r H locs ls hC hZ hW hR hlo hls)
theorem V_an10 (q : Nat) {a0 a1 a2 a3 a4 a5 a6 a7 a8 a9 : Option Value} {t : List (Option Value)}  (d : decode cc pc = .ok (.aload 10, 2)) (hq : pc + 2 = q) (k : V l G y cc nL ret R mc ms Z post L M cells slots (a0 :: a1 :: a2 :: a3 :: a4 :: a5 :: a6 :: a7 :: a8 :: a9 :: some (.null) :: t) q (.null :: st)) : V l G y cc nL ret R mc ms Z post L M cells slots (a0 :: a1 :: a2 :: a3 :: a4 :: a5 :: a6 :: a7 :: a8 :: a9 :: some (.null) :: t) pc (st) := by
  subst hq
  intro p e s m args below meth c r0 r H locs ls hC hZ hW hR hlo hls
  exact lv_aloadN hC.1 hC.2.1 d (hls.at (i := 10) rfl) (k p e s m args below meth c r0 r H locs ls hC hZ hW hR hlo hls)
theorem V_is10 (q : Nat) {a0 a1 a2 a3 a4 a5 a6 a7 a8 a9 b : Option Value} {t : List (Option Value)} {x : Int32} (d : decode cc pc = .ok (.istore 10, 2)) (hn : 10 < nL) (hq : pc + 2 = q) (k : V l G y cc nL ret R mc ms Z post L M cells slots (a0 :: a1 :: a2 :: a3 :: a4 :: a5 :: a6 :: a7 :: a8 :: a9 :: some (.int x) :: t) q st) : V l G y cc nL ret R mc ms Z post L M cells slots (a0 :: a1 :: a2 :: a3 :: a4 :: a5 :: a6 :: a7 :: a8 :: a9 :: b :: t) pc (.int x :: st) := by
  subst hq
  intro p e s m args below meth c r0 r H locs ls hC hZ hW hR hlo hls
  exact lv_istore hC.1 hC.2.1 d hls.1 hn rfl (fun ls' h' => k p e s m args below meth c r0 r H locs ls' hC hZ hW hR hlo (gH.set (i := 10) (v := .int x) hls.2 rfl h'))
theorem V_as10 (q : Nat) {a0 a1 a2 a3 a4 a5 a6 a7 a8 a9 b : Option Value} {t : List (Option Value)} {x : Nat} (d : decode cc pc = .ok (.astore 10, 2)) (hn : 10 < nL) (hq : pc + 2 = q) (k : V l G y cc nL ret R mc ms Z post L M cells slots (a0 :: a1 :: a2 :: a3 :: a4 :: a5 :: a6 :: a7 :: a8 :: a9 :: some (.ref x) :: t) q st) : V l G y cc nL ret R mc ms Z post L M cells slots (a0 :: a1 :: a2 :: a3 :: a4 :: a5 :: a6 :: a7 :: a8 :: a9 :: b :: t) pc (.ref x :: st) := by
  subst hq
  intro p e s m args below meth c r0 r H locs ls hC hZ hW hR hlo hls
  exact lv_astore hC.1 hC.2.1 d hls.1 hn rfl (fun ls' h' => k p e s m args below meth c r0 r H locs ls' hC hZ hW hR hlo (gH.set (i := 10) (v := .ref x) hls.2 rfl h'))
theorem V_az10 (q : Nat) {a0 a1 a2 a3 a4 a5 a6 a7 a8 a9 b : Option Value} {t : List (Option Value)}  (d : decode cc pc = .ok (.astore 10, 2)) (hn : 10 < nL) (hq : pc + 2 = q) (k : V l G y cc nL ret R mc ms Z post L M cells slots (a0 :: a1 :: a2 :: a3 :: a4 :: a5 :: a6 :: a7 :: a8 :: a9 :: some (.null) :: t) q st) : V l G y cc nL ret R mc ms Z post L M cells slots (a0 :: a1 :: a2 :: a3 :: a4 :: a5 :: a6 :: a7 :: a8 :: a9 :: b :: t) pc (.null :: st) := by
  subst hq
  intro p e s m args below meth c r0 r H locs ls hC hZ hW hR hlo hls
  exact lv_astoreN hC.1 hC.2.1 d hls.1 hn rfl (fun ls' h' => k p e s m args below meth c r0 r H locs ls' hC hZ hW hR hlo (gH.set (i := 10) (v := .null) hls.2 rfl h'))
theorem V_ii10 (q : Nat) {a0 a1 a2 a3 a4 a5 a6 a7 a8 a9 : Option Value} {t : List (Option Value)} {x v : Int32} {n : Int} (d : decode cc pc = .ok (.iinc 10 n, 3)) (hn : 10 < nL) (hv : Int32.ofInt n = v) (hq : pc + 3 = q) (k : V l G y cc nL ret R mc ms Z post L M cells slots (a0 :: a1 :: a2 :: a3 :: a4 :: a5 :: a6 :: a7 :: a8 :: a9 :: some (.int (x + v)) :: t) q st) : V l G y cc nL ret R mc ms Z post L M cells slots (a0 :: a1 :: a2 :: a3 :: a4 :: a5 :: a6 :: a7 :: a8 :: a9 :: some (.int x) :: t) pc st := by
  subst hq
  subst hv
  intro p e s m args below meth c r0 r H locs ls hC hZ hW hR hlo hls
  obtain ⟨k9, hk9⟩ := List.getElem?_of_mem (gP_mem.mpr ⟨.int x, rfl, rfl⟩ : (10, Value.int x) ∈ gP r (a0 :: a1 :: a2 :: a3 :: a4 :: a5 :: a6 :: a7 :: a8 :: a9 :: some (.int x) :: t))
  exact lv_iinc hC.1 hC.2.1 d hls.1 hk9 rfl hn rfl (fun ls' h' => k p e s m args below meth c r0 r H locs ls' hC hZ hW hR hlo (gH.set (i := 10) (v := .int (x + Int32.ofInt n)) hls.2 rfl h'))
theorem V_il11 (q : Nat) {a0 a1 a2 a3 a4 a5 a6 a7 a8 a9 a10 : Option Value} {t : List (Option Value)} {x : Int32} (d : decode cc pc = .ok (.iload 11, 2)) (hq : pc + 2 = q) (k : V l G y cc nL ret R mc ms Z post L M cells slots (a0 :: a1 :: a2 :: a3 :: a4 :: a5 :: a6 :: a7 :: a8 :: a9 :: a10 :: some (.int x) :: t) q (.int x :: st)) : V l G y cc nL ret R mc ms Z post L M cells slots (a0 :: a1 :: a2 :: a3 :: a4 :: a5 :: a6 :: a7 :: a8 :: a9 :: a10 :: some (.int x) :: t) pc (st) := by
  subst hq
  intro p e s m args below meth c r0 r H locs ls hC hZ hW hR hlo hls
  exact lv_iload hC.1 hC.2.1 d (hls.at (i := 11) rfl) (k p e s m args below meth c r0 r H locs ls hC hZ hW hR hlo hls)
theorem V_al11 (q : Nat) {a0 a1 a2 a3 a4 a5 a6 a7 a8 a9 a10 : Option Value} {t : List (Option Value)} {x : Nat} (d : decode cc pc = .ok (.aload 11, 2)) (hq : pc + 2 = q) (k : V l G y cc nL ret R mc ms Z post L M cells slots (a0 :: a1 :: a2 :: a3 :: a4 :: a5 :: a6 :: a7 :: a8 :: a9 :: a10 :: some (.ref x) :: t) q (.ref x :: st)) : V l G y cc nL ret R mc ms Z post L M cells slots (a0 :: a1 :: a2 :: a3 :: a4 :: a5 :: a6 :: a7 :: a8 :: a9 :: a10 :: some (.ref x) :: t) pc (st) := by
  subst hq
  intro p e s m args below meth c r0 r H locs ls hC hZ hW hR hlo hls
  exact lv_aload hC.1 hC.2.1 d (hls.at (i := 11) rfl) (k p e s m args below meth c r0 r H locs ls hC hZ hW hR hlo hls)
theorem V_an11 (q : Nat) {a0 a1 a2 a3 a4 a5 a6 a7 a8 a9 a10 : Option Value} {t : List (Option Value)}  (d : decode cc pc = .ok (.aload 11, 2)) (hq : pc + 2 = q) (k : V l G y cc nL ret R mc ms Z post L M cells slots (a0 :: a1 :: a2 :: a3 :: a4 :: a5 :: a6 :: a7 :: a8 :: a9 :: a10 :: some (.null) :: t) q (.null :: st)) : V l G y cc nL ret R mc ms Z post L M cells slots (a0 :: a1 :: a2 :: a3 :: a4 :: a5 :: a6 :: a7 :: a8 :: a9 :: a10 :: some (.null) :: t) pc (st) := by
  subst hq
  intro p e s m args below meth c r0 r H locs ls hC hZ hW hR hlo hls
  exact lv_aloadN hC.1 hC.2.1 d (hls.at (i := 11) rfl) (k p e s m args below meth c r0 r H locs ls hC hZ hW hR hlo hls)
theorem V_is11 (q : Nat) {a0 a1 a2 a3 a4 a5 a6 a7 a8 a9 a10 b : Option Value} {t : List (Option Value)} {x : Int32} (d : decode cc pc = .ok (.istore 11, 2)) (hn : 11 < nL) (hq : pc + 2 = q) (k : V l G y cc nL ret R mc ms Z post L M cells slots (a0 :: a1 :: a2 :: a3 :: a4 :: a5 :: a6 :: a7 :: a8 :: a9 :: a10 :: some (.int x) :: t) q st) : V l G y cc nL ret R mc ms Z post L M cells slots (a0 :: a1 :: a2 :: a3 :: a4 :: a5 :: a6 :: a7 :: a8 :: a9 :: a10 :: b :: t) pc (.int x :: st) := by
  subst hq
  intro p e s m args below meth c r0 r H locs ls hC hZ hW hR hlo hls
  exact lv_istore hC.1 hC.2.1 d hls.1 hn rfl (fun ls' h' => k p e s m args below meth c r0 r H locs ls' hC hZ hW hR hlo (gH.set (i := 11) (v := .int x) hls.2 rfl h'))
theorem V_as11 (q : Nat) {a0 a1 a2 a3 a4 a5 a6 a7 a8 a9 a10 b : Option Value} {t : List (Option Value)} {x : Nat} (d : decode cc pc = .ok (.astore 11, 2)) (hn : 11 < nL) (hq : pc + 2 = q) (k : V l G y cc nL ret R mc ms Z post L M cells slots (a0 :: a1 :: a2 :: a3 :: a4 :: a5 :: a6 :: a7 :: a8 :: a9 :: a10 :: some (.ref x) :: t) q st) : V l G y cc nL ret R mc ms Z post L M cells slots (a0 :: a1 :: a2 :: a3 :: a4 :: a5 :: a6 :: a7 :: a8 :: a9 :: a10 :: b :: t) pc (.ref x :: st) := by
  subst hq
  intro p e s m args below meth c r0 r H locs ls hC hZ hW hR hlo hls
  exact lv_astore hC.1 hC.2.1 d hls.1 hn rfl (fun ls' h' => k p e s m args below meth c r0 r H locs ls' hC hZ hW hR hlo (gH.set (i := 11) (v := .ref x) hls.2 rfl h'))
theorem V_az11 (q : Nat) {a0 a1 a2 a3 a4 a5 a6 a7 a8 a9 a10 b : Option Value} {t : List (Option Value)}  (d : decode cc pc = .ok (.astore 11, 2)) (hn : 11 < nL) (hq : pc + 2 = q) (k : V l G y cc nL ret R mc ms Z post L M cells slots (a0 :: a1 :: a2 :: a3 :: a4 :: a5 :: a6 :: a7 :: a8 :: a9 :: a10 :: some (.null) :: t) q st) : V l G y cc nL ret R mc ms Z post L M cells slots (a0 :: a1 :: a2 :: a3 :: a4 :: a5 :: a6 :: a7 :: a8 :: a9 :: a10 :: b :: t) pc (.null :: st) := by
  subst hq
  intro p e s m args below meth c r0 r H locs ls hC hZ hW hR hlo hls
  exact lv_astoreN hC.1 hC.2.1 d hls.1 hn rfl (fun ls' h' => k p e s m args below meth c r0 r H locs ls' hC hZ hW hR hlo (gH.set (i := 11) (v := .null) hls.2 rfl h'))
theorem V_ii11 (q : Nat) {a0 a1 a2 a3 a4 a5 a6 a7 a8 a9 a10 : Option Value} {t : List (Option Value)} {x v : Int32} {n : Int} (d : decode cc pc = .ok (.iinc 11 n, 3)) (hn : 11 < nL) (hv : Int32.ofInt n = v) (hq : pc + 3 = q) (k : V l G y cc nL ret R mc ms Z post L M cells slots (a0 :: a1 :: a2 :: a3 :: a4 :: a5 :: a6 :: a7 :: a8 :: a9 :: a10 :: some (.int (x + v)) :: t) q st) : V l G y cc nL ret R mc ms Z post L M cells slots (a0 :: a1 :: a2 :: a3 :: a4 :: a5 :: a6 :: a7 :: a8 :: a9 :: a10 :: some (.int x) :: t) pc st := by
  subst hq
  subst hv
  intro p e s m args below meth c r0 r H locs ls hC hZ hW hR hlo hls
  obtain ⟨k9, hk9⟩ := List.getElem?_of_mem (gP_mem.mpr ⟨.int x, rfl, rfl⟩ : (11, Value.int x) ∈ gP r (a0 :: a1 :: a2 :: a3 :: a4 :: a5 :: a6 :: a7 :: a8 :: a9 :: a10 :: some (.int x) :: t))
  exact lv_iinc hC.1 hC.2.1 d hls.1 hk9 rfl hn rfl (fun ls' h' => k p e s m args below meth c r0 r H locs ls' hC hZ hW hR hlo (gH.set (i := 11) (v := .int (x + Int32.ofInt n)) hls.2 rfl h'))
theorem V_il12 (q : Nat) {a0 a1 a2 a3 a4 a5 a6 a7 a8 a9 a10 a11 : Option Value} {t : List (Option Value)} {x : Int32} (d : decode cc pc = .ok (.iload 12, 2)) (hq : pc + 2 = q) (k : V l G y cc nL ret R mc ms Z post L M cells slots (a0 :: a1 :: a2 :: a3 :: a4 :: a5 :: a6 :: a7 :: a8 :: a9 :: a10 :: a11 :: some (.int x) :: t) q (.int x :: st)) : V l G y cc nL ret R mc ms Z post L M cells slots (a0 :: a1 :: a2 :: a3 :: a4 :: a5 :: a6 :: a7 :: a8 :: a9 :: a10 :: a11 :: some (.int x) :: t) pc (st) := by
  subst hq
  intro p e s m args below meth c r0 r H locs ls hC hZ hW hR hlo hls
  exact lv_iload hC.1 hC.2.1 d (hls.at (i := 12) rfl) (k p e s m args below meth c r0 r H locs ls hC hZ hW hR hlo hls)
theorem V_al12 (q : Nat) {a0 a1 a2 a3 a4 a5 a6 a7 a8 a9 a10 a11 : Option Value} {t : List (Option Value)} {x : Nat} (d : decode cc pc = .ok (.aload 12, 2)) (hq : pc + 2 = q) (k : V l G y cc nL ret R mc ms Z post L M cells slots (a0 :: a1 :: a2 :: a3 :: a4 :: a5 :: a6 :: a7 :: a8 :: a9 :: a10 :: a11 :: some (.ref x) :: t) q (.ref x :: st)) : V l G y cc nL ret R mc ms Z post L M cells slots (a0 :: a1 :: a2 :: a3 :: a4 :: a5 :: a6 :: a7 :: a8 :: a9 :: a10 :: a11 :: some (.ref x) :: t) pc (st) := by
  subst hq
  intro p e s m args below meth c r0 r H locs ls hC hZ hW hR hlo hls
  exact lv_aload hC.1 hC.2.1 d (hls.at (i := 12) rfl) (k p e s m args below meth c r0 r H locs ls hC hZ hW hR hlo hls)
theorem V_an12 (q : Nat) {a0 a1 a2 a3 a4 a5 a6 a7 a8 a9 a10 a11 : Option Value} {t : List (Option Value)}  (d : decode cc pc = .ok (.aload 12, 2)) (hq : pc + 2 = q) (k : V l G y cc nL ret R mc ms Z post L M cells slots (a0 :: a1 :: a2 :: a3 :: a4 :: a5 :: a6 :: a7 :: a8 :: a9 :: a10 :: a11 :: some (.null) :: t) q (.null :: st)) : V l G y cc nL ret R mc ms Z post L M cells slots (a0 :: a1 :: a2 :: a3 :: a4 :: a5 :: a6 :: a7 :: a8 :: a9 :: a10 :: a11 :: some (.null) :: t) pc (st) := by
  subst hq
  intro p e s m args below meth c r0 r H locs ls hC hZ hW hR hlo hls
  exact lv_aloadN hC.1 hC.2.1 d (hls.at (i := 12) rfl) (k p e s m args below meth c r0 r H locs ls hC hZ hW hR hlo hls)
theorem V_is12 (q : Nat) {a0 a1 a2 a3 a4 a5 a6 a7 a8 a9 a10 a11 b : Option Value} {t : List (Option Value)} {x : Int32} (d : decode cc pc = .ok (.istore 12, 2)) (hn : 12 < nL) (hq : pc + 2 = q) (k : V l G y cc nL ret R mc ms Z post L M cells slots (a0 :: a1 :: a2 :: a3 :: a4 :: a5 :: a6 :: a7 :: a8 :: a9 :: a10 :: a11 :: some (.int x) :: t) q st) : V l G y cc nL ret R mc ms Z post L M cells slots (a0 :: a1 :: a2 :: a3 :: a4 :: a5 :: a6 :: a7 :: a8 :: a9 :: a10 :: a11 :: b :: t) pc (.int x :: st) := by
  subst hq
  intro p e s m args below meth c r0 r H locs ls hC hZ hW hR hlo hls
  exact lv_istore hC.1 hC.2.1 d hls.1 hn rfl (fun ls' h' => k p e s m args below meth c r0 r H locs ls' hC hZ hW hR hlo (gH.set (i := 12) (v := .int x) hls.2 rfl h'))
theorem V_as12 (q : Nat) {a0 a1 a2 a3 a4 a5 a6 a7 a8 a9 a10 a11 b : Option Value} {t : List (Option Value)} {x : Nat} (d : decode cc pc = .ok (.astore 12, 2)) (hn : 12 < nL) (hq : pc + 2 = q) (k : V l G y cc nL ret R mc ms Z post L M cells slots (a0 :: a1 :: a2 :: a3 :: a4 :: a5 :: a6 :: a7 :: a8 :: a9 :: a10 :: a11 :: some (.ref x) :: t) q st) : V l G y cc nL ret R mc ms Z post L M cells slots (a0 :: a1 :: a2 :: a3 :: a4 :: a5 :: a6 :: a7 :: a8 :: a9 :: a10 :: a11 :: b :: t) pc (.ref x :: st) := by
  subst hq
  intro p e s m args below meth c r0 r H locs ls hC hZ hW hR hlo hls
  exact lv_astore hC.1 hC.2.1 d hls.1 hn rfl (fun ls' h' => k p e s m args below meth c r0 r H locs ls' hC hZ hW hR hlo (gH.set (i := 12) (v := .ref x) hls.2 rfl h'))
theorem V_az12 (q : Nat) {a0 a1 a2 a3 a4 a5 a6 a7 a8 a9 a10 a11 b : Option Value} {t : List (Option Value)}  (d : decode cc pc = .ok (.astore 12, 2)) (hn : 12 < nL) (hq : pc + 2 = q) (k : V l G y cc nL ret R mc ms Z post L M cells slots (a0 :: a1 :: a2 :: a3 :: a4 :: a5 :: a6 :: a7 :: a8 :: a9 :: a10 :: a11 :: some (.null) :: t) q st) : V l G y cc nL ret R mc ms Z post L M cells slots (a0 :: a1 :: a2 :: a3 :: a4 :: a5 :: a6 :: a7 :: a8 :: a9 :: a10 :: a11 :: b :: t) pc (.null :: st) := by
  subst hq
  intro p e s m args below meth c r0 r H locs ls hC hZ hW hR hlo hls
  exact lv_astoreN hC.1 hC.2.1 d hls.1 hn rfl (fun ls' h' => k p e s m args below meth c r0 r H locs ls' hC hZ hW hR hlo (gH.set (i := 12) (v := .null) hls.2 rfl h'))
theorem V_ii12 (q : Nat) {a0 a1 a2 a3 a4 a5 a6 a7 a8 a9 a10 a11 : Option Value} {t : List (Option Value)} {x v : Int32} {n : Int} (d : decode cc pc = .ok (.iinc 12 n, 3)) (hn : 12 < nL) (hv : Int32.ofInt n = v) (hq : pc + 3 = q) (k : V l G y cc nL ret R mc ms Z post L M cells slots (a0 :: a1 :: a2 :: a3 :: a4 :: a5 :: a6 :: a7 :: a8 :: a9 :: a10 :: a11 :: some (.int (x + v)) :: t) q st) : V l G y cc nL ret R mc ms Z post L M cells slots (a0 :: a1 :: a2 :: a3 :: a4 :: a5 :: a6 :: a7 :: a8 :: a9 :: a10 :: a11 :: some (.int x) :: t) pc st := by
  subst hq
  subst hv
  intro p e s m args below meth c r0 r H locs ls hC hZ hW hR hlo hls
  obtain ⟨k9, hk9⟩ := List.getElem?_of_mem (gP_mem.mpr ⟨.int x, rfl, rfl⟩ : (12, Value.int x) ∈ gP r (a0 :: a1 :: a2 :: a3 :: a4 :: a5 :: a6 :: a7 :: a8 :: a9 :: a10 :: a11 :: some (.int x) :: t))
  exact lv_iinc hC.1 hC.2.1 d hls.1 hk9 rfl hn rfl (fun ls' h' => k p e s m args below meth c r0 r H locs ls' hC hZ hW hR hlo (gH.set (i := 12) (v := .int (x + Int32.ofInt n)) hls.2 rfl h'))
theorem V_il13 (q : Nat) {a0 a1 a2 a3 a4 a5 a6 a7 a8 a9 a10 a11 a12 : Option Value} {t : List (Option Value)} {x : Int32} (d : decode cc pc = .ok (.iload 13, 2)) (hq : pc + 2 = q) (k : V l G y cc nL ret R mc ms Z post L M cells slots (a0 :: a1 :: a2 :: a3 :: a4 :: a5 :: a6 :: a7 :: a8 :: a9 :: a10 :: a11 :: a12 :: some (.int x) :: t) q (.int x :: st)) : V l G y cc nL ret R mc ms Z post L M cells slots (a0 :: a1 :: a2 :: a3 :: a4 :: a5 :: a6 :: a7 :: a8 :: a9 :: a10 :: a11 :: a12 :: some (.int x) :: t) pc (st) := by
  subst hq
  intro p e s m args below meth c r0 r H locs ls hC hZ hW hR hlo hls
  exact lv_iload hC.1 hC.2.1 d (hls.at (i := 13) rfl) (k p e s m args below meth c r0 r H locs ls hC hZ hW hR hlo hls)
theorem V_al13 (q : Nat) {a0 a1 a2 a3 a4 a5 a6 a7 a8 a9 a10 a11 a12 : Option Value} {t : List (Option Value)} {x : Nat} (d : decode cc pc = .ok (.aload 13, 2)) (hq : pc + 2 = q) (k : V l G y cc nL ret R mc ms Z post L M cells slots (a0 :: a1 :: a2 :: a3 :: a4 :: a5 :: a6 :: a7 :: a8 :: a9 :: a10 :: a11 :: a12 :: some (.ref x) :: t) q (.ref x :: st)) : V l G y cc nL ret R mc ms Z post L M cells slots (a0 :: a1 :: a2 :: a3 :: a4 :: a5 :: a6 :: a7 :: a8 :: a9 :: a10 :: a11 :: a12 :: some (.ref x) :: t) pc (st) := by
  subst hq
  intro p e s m args below meth c r0 r H locs ls hC hZ hW hR hlo hls
  exact lv_aload hC.1 hC.2.1 d (hls.at (i := 13) rfl) (k p e s m args below meth c r0 r H locs ls hC hZ hW hR hlo hls)
theorem V_an13 (q : Nat) {a0 a1 a2 a3 a4 a5 a6 a7 a8 a9 a10 a11 a12 : Option Value} {t : List (Option Value)}  (d : decode cc pc = .ok (.aload 13, 2)) (hq : pc + 2 = q) (k : V l G y cc nL ret R mc ms Z post L M cells slots (a0 :: a1 :: a2 :: a3 :: a4 :: a5 :: a6 :: a7 :: a8 :: a9 :: a10 :: a11 :: a12 :: some (.null) :: t) q (.null :: st)) : V l G y cc nL ret R mc ms Z post L M cells slots (a0 :: a1 :: a2 :: a3 :: a4 :: a5 :: a6 :: a7 :: a8 :: a9 :: a10 :: a11 :: a12 :: some (.null) :: t) pc (st) := by
  subst hq
  intro p e s m args below meth c r0 r H locs ls hC hZ hW hR hlo hls
  exact lv_aloadN hC.1 hC.2.1 d (hls.at (i := 13) rfl) (k p e s m args below meth c r0 r H locs ls hC hZ hW hR hlo hls)
theorem V_is13 (q : Nat) {a0 a1 a2 a3 a4 a5 a6 a7 a8 a9 a10 a11 a12 b : Option Value} {t : List (Option Value)} {x : Int32} (d : decode cc pc = .ok (.istore 13, 2)) (hn : 13 < nL) (hq : pc + 2 = q) (k : V l G y cc nL ret R mc ms Z post L M cells slots (a0 :: a1 :: a2 :: a3 :: a4 :: a5 :: a6 :: a7 :: a8 :: a9 :: a10 :: a11 :: a12 :: some (.int x) :: t) q st) : V l G y cc nL ret R mc ms Z post L M cells slots (a0 :: a1 :: a2 :: a3 :: a4 :: a5 :: a6 :: a7 :: a8 :: a9 :: a10 :: a11 :: a12 :: b :: t) pc (.int x :: st) := by
  subst hq
  intro p e s m args below meth c r0 r H locs ls hC hZ hW hR hlo hls
  exact lv_istore hC.1 hC.2.1 d hls.1 hn rfl (fun ls' h' => k p e s m args below meth c r0 r H locs ls' hC hZ hW hR hlo (gH.set (i := 13) (v := .int x) hls.2 rfl h'))
theorem V_as13 (q : Nat) {a0 a1 a2 a3 a4 a5 a6 a7 a8 a9 a10 a11 a12 b : Option Value} {t : List (Option Value)} {x : Nat} (d : decode cc pc = .ok (.astore 13, 2)) (hn : 13 < nL) (hq : pc + 2 = q) (k : V l G y cc nL ret R mc ms Z post L M cells slots (a0 :: a1 :: a2 :: a3 :: a4 :: a5 :: a6 :: a7 :: a8 :: a9 :: a10 :: a11 :: a12 :: some (.ref x) :: t) q st) : V l G y cc nL ret R mc ms Z post L M cells slots (a0 :: a1 :: a2 :: a3 :: a4 :: a5 :: a6 :: a7 :: a8 :: a9 :: a10 :: a11 :: a12 :: b :: t) pc (.ref x :: st) := by
  subst hq
  intro p e s m args below meth c r0 r H locs ls hC hZ hW hR hlo hls
  exact lv_astore hC.1 hC.2.1 d hls.1 hn rfl (fun ls' h' => k p e s m args below meth c r0 r H locs ls' hC hZ hW hR hlo (gH.set (i := 13) (v := .ref x) hls.2 rfl h'))
theorem V_az13 (q : Nat) {a0 a1 a2 a3 a4 a5 a6 a7 a8 a9 a10 a11 a12 b : Option Value} {t : List (Option Value)}  (d : decode cc pc = .ok (.astore 13, 2)) (hn : 13 < nL) (hq : pc + 2 = q) (k : V l G y cc nL ret R mc ms Z post L M cells slots (a0 :: a1 :: a2 :: a3 :: a4 :: a5 :: a6 :: a7 :: a8 :: a9 :: a10 :: a11 :: a12 :: some (.null) :: t) q st) : V l G y cc nL ret R mc ms Z post L M cells slots (a0 :: a1 :: a2 :: a3 :: a4 :: a5 :: a6 :: a7 :: a8 :: a9 :: a10 :: a11 :: a12 :: b :: t) pc (.null :: st) := by
  subst hq
  intro p e s m args below meth c r0 r H locs ls hC hZ hW hR hlo hls
  exact lv_astoreN hC.1 hC.2.1 d hls.1 hn rfl (fun ls' h' => k p e s m args below meth c r0 r H locs ls' hC hZ hW hR hlo (gH.set (i := 13) (v := .null) hls.2 rfl h'))
theorem V_ii13 (q : Nat) {a0 a1 a2 a3 a4 a5 a6 a7 a8 a9 a10 a11 a12 : Option Value} {t : List (Option Value)} {x v : Int32} {n : Int} (d : decode cc pc = .ok (.iinc 13 n, 3)) (hn : 13 < nL) (hv : Int32.ofInt n = v) (hq : pc + 3 = q) (k : V l G y cc nL ret R mc ms Z post L M cells slots (a0 :: a1 :: a2 :: a3 :: a4 :: a5 :: a6 :: a7 :: a8 :: a9 :: a10 :: a11 :: a12 :: some (.int (x + v)) :: t) q st) : V l G y cc nL ret R mc ms Z post L M cells slots (a0 :: a1 :: a2 :: a3 :: a4 :: a5 :: a6 :: a7 :: a8 :: a9 :: a10 :: a11 :: a12 :: some (.int x) :: t) pc st := by
  subst hq
  subst hv
  intro p e s m args below meth c r0 r H locs ls hC hZ hW hR hlo hls
  obtain ⟨k9, hk9⟩ := List.getElem?_of_mem (gP_mem.mpr ⟨.int x, rfl, rfl⟩ : (13, Value.int x) ∈ gP r (a0 :: a1 :: a2 :: a3 :: a4 :: a5 :: a6 :: a7 :: a8 :: a9 :: a10 :: a11 :: a12 :: some (.int x) :: t))
  exact lv_iinc hC.1 hC.2.1 d hls.1 hk9 rfl hn rfl (fun ls' h' => k p e s m args below meth c r0 r H locs ls' hC hZ hW hR hlo (gH.set (i := 13) (v := .int (x + Int32.ofInt n)) hls.2 rfl h'))
theorem V_il14 (q : Nat) {a0 a1 a2 a3 a4 a5 a6 a7 a8 a9 a10 a11 a12 a13 : Option Value} {t : List (Option Value)} {x : Int32} (d : decode cc pc = .ok (.iload 14, 2)) (hq : pc + 2 = q) (k : V l G y cc nL ret R mc ms Z post L M cells slots (a0 :: a1 :: a2 :: a3 :: a4 :: a5 :: a6 :: a7 :: a8 :: a9 :: a10 :: a11 :: a12 :: a13 :: some (.int x) :: t) q (.int x :: st)) : V l G y cc nL ret R mc ms Z post L M cells slots (a0 :: a1 :: a2 :: a3 :: a4 :: a5 :: a6 :: a7 :: a8 :: a9 :: a10 :: a11 :: a12 :: a13 :: some (.int x) :: t) pc (st) := by
  subst hq
  intro p e s m args below meth c r0 r H locs ls hC hZ hW hR hlo hls
  exact lv_iload hC.1 hC.2.1 d (hls.at (i := 14) rfl) (k p e s m args below meth c r0 r H locs ls hC hZ hW hR hlo hls)
theorem V_al14 (q : Nat) {a0 a1 a2 a3 a4 a5 a6 a7 a8 a9 a10 a11 a12 a13 : Option Value} {t : List (Option Value)} {x : Nat} (d : decode cc pc = .ok (.aload 14, 2)) (hq : pc + 2 = q) (k : V l G y cc nL ret R mc ms Z post L M cells slots (a0 :: a1 :: a2 :: a3 :: a4 :: a5 :: a6 :: a7 :: a8 :: a9 :: a10 :: a11 :: a12 :: a13 :: some (.ref x) :: t) q (.ref x :: st)) : V l G y cc nL ret R mc ms Z post L M cells slots (a0 :: a1 :: a2 :: a3 :: a4 :: a5 :: a6 :: a7 :: a8 :: a9 :: a10 :: a11 :: a12 :: a13 :: some (.ref x) :: t) pc (st) := by
  subst hq
  intro p e s m args below meth c r0 r H locs ls hC hZ hW hR hlo hls
  exact lv_aload hC.1 hC.2.1 d (hls.at (i := 14) rfl) (k p e s m args below meth c r0 r H locs ls hC hZ hW hR hlo hls)
theorem V_an14 (q : Nat) {a0 a1 a2 a3 a4 a5 a6 a7 a8 a9 a10 a11 a12 a13 : Option Value} {t : List (Option Value)}  (d : decode cc pc = .ok (.aload 14, 2)) (hq : pc + 2 = q) (k : V l G y cc nL ret R mc ms Z post L M cells slots (a0 :: a1 :: a2 :: a3 :: a4 :: a5 :: a6 :: a7 :: a8 :: a9 :: a10 :: a11 :: a12 :: a13 :: some (.null) :: t) q (.null :: st)) : V l G y cc nL ret R mc ms Z post L M cells slots (a0 :: a1 :: a2 :: a3 :: a4 :: a5 :: a6 :: a7 :: a8 :: a9 :: a10 :: a11 :: a12 :: a13 :: some (.null) :: t) pc (st) := by
  subst hq
  intro p e s m args below meth c r0 r H locs ls hC hZ hW hR hlo hls
  exact lv_aloadN hC.1 hC.2.1 d (hls.at (i := 14) rfl) (k p e s m args below meth c r0 r H locs ls hC hZ hW hR hlo hls)
theorem V_is14 (q : Nat) {a0 a1 a2 a3 a4 a5 a6 a7 a8 a9 a10 a11 a12 a13 b : Option Value} {t : List (Option Value)} {x : Int32} (d : decode cc pc = .ok (.istore 14, 2)) (hn : 14 < nL) (hq : pc + 2 = q) (k : V l G y cc nL ret R mc ms Z post L M cells slots (a0 :: a1 :: a2 :: a3 :: a4 :: a5 :: a6 :: a7 :: a8 :: a9 :: a10 :: a11 :: a12 :: a13 :: some (.int x) :: t) q st) : V l G y cc nL ret R mc ms Z post L M cells slots (a0 :: a1 :: a2 :: a3 :: a4 :: a5 :: a6 :: a7 :: a8 :: a9 :: a10 :: a11 :: a12 :: a13 :: b :: t) pc (.int x :: st) := by
  subst hq
  intro p e s m args below meth c r0 r H locs ls hC hZ hW hR hlo hls
  exact lv_istore hC.1 hC.2.1 d hls.1 hn rfl (fun ls' h' => k p e s m args below meth c r0 r H locs ls' hC hZ hW hR hlo (gH.set (i := 14) (v := .int x) hls.2 rfl h'))
theorem V_as14 (q : Nat) {a0 a1 a2 a3 a4 a5 a6 a7 a8 a9 a10 a11 a12 a13 b : Option Value} {t : List (Option Value)} {x : Nat} (d : decode cc pc = .ok (.astore 14, 2)) (hn : 14 < nL) (hq : pc + 2 = q) (k : V l G y cc nL ret R mc ms Z post L M cells slots (a0 :: a1 :: a2 :: a3 :: a4 :: a5 :: a6 :: a7 :: a8 :: a9 :: a10 :: a11 :: a12 :: a13 :: some (.ref x) :: t) q st) : V l G y cc nL ret R mc ms Z post L M cells slots (a0 :: a1 :: a2 :: a3 :: a4 :: a5 :: a6 :: a7 :: a8 :: a9 :: a10 :: a11 :: a12 :: a13 :: b :: t) pc (.ref x :: st) := by
  subst hq
  intro p e s m args below meth c r0 r H locs ls hC hZ hW hR hlo hls
  exact lv_astore hC.1 hC.2.1 d hls.1 hn rfl (fun ls' h' => k p e s m args below meth c r0 r H locs ls' hC hZ hW hR hlo (gH.set (i := 14) (v := .ref x) hls.2 rfl h'))
theorem V_az14 (q : Nat) {a0 a1 a2 a3 a4 a5 a6 a7 a8 a9 a10 a11 a12 a13 b : Option Value} {t : List (Option Value)}  (d : decode cc pc = .ok (.astore 14, 2)) (hn : 14 < nL) (hq : pc + 2 = q) (k : V l G y cc nL ret R mc ms Z post L M cells slots (a0 :: a1 :: a2 :: a3 :: a4 :: a5 :: a6 :: a7 :: a8 :: a9 :: a10 :: a11 :: a12 :: a13 :: some (.null) :: t) q st) : V l G y cc nL ret R mc ms Z post L M cells slots (a0 :: a1 :: a2 :: a3 :: a4 :: a5 :: a6 :: a7 :: a8 :: a9 :: a10 :: a11 :: a12 :: a13 :: b :: t) pc (.null :: st) := by
  subst hq
  intro p e s m args below meth c r0 r H locs ls hC hZ hW hR hlo hls
  exact lv_astoreN hC.1 hC.2.1 d hls.1 hn rfl (fun ls' h' => k p e s m args below meth c r0 r H locs ls' hC hZ hW hR hlo (gH.set (i := 14) (v := .null) hls.2 rfl h'))
theorem V_ii14 (q : Nat) {a0 a1 a2 a3 a4 a5 a6 a7 a8 a9 a10 a11 a12 a13 : Option Value} {t : List (Option Value)} {x v : Int32} {n : Int} (d : decode cc pc = .ok (.iinc 14 n, 3)) (hn : 14 < nL) (hv : Int32.ofInt n = v) (hq : pc + 3 = q) (k : V l G y cc nL ret R mc ms Z post L M cells slots (a0 :: a1 :: a2 :: a3 :: a4 :: a5 :: a6 :: a7 :: a8 :: a9 :: a10 :: a11 :: a12 :: a13 :: some (.int (x + v)) :: t) q st) : V l G y cc nL ret R mc ms Z post L M cells slots (a0 :: a1 :: a2 :: a3 :: a4 :: a5 :: a6 :: a7 :: a8 :: a9 :: a10 :: a11 :: a12 :: a13 :: some (.int x) :: t) pc st := by
  subst hq
  subst hv
  intro p e s m args below meth c r0 r H locs ls hC hZ hW hR hlo hls
  obtain ⟨k9, hk9⟩ := List.getElem?_of_mem (gP_mem.mpr ⟨.int x, rfl, rfl⟩ : (14, Value.int x) ∈ gP r (a0 :: a1 :: a2 :: a3 :: a4 :: a5 :: a6 :: a7 :: a8 :: a9 :: a10 :: a11 :: a12 :: a13 :: some (.int x) :: t))
  exact lv_iinc hC.1 hC.2.1 d hls.1 hk9 rfl hn rfl (fun ls' h' => k p e s m args below meth c r0 r H locs ls' hC hZ hW hR hlo (gH.set (i := 14) (v := .int (x + Int32.ofInt n)) hls.2 rfl h'))
theorem V_il15 (q : Nat) {a0 a1 a2 a3 a4 a5 a6 a7 a8 a9 a10 a11 a12 a13 a14 : Option Value} {t : List (Option Value)} {x : Int32} (d : decode cc pc = .ok (.iload 15, 2)) (hq : pc + 2 = q) (k : V l G y cc nL ret R mc ms Z post L M cells slots (a0 :: a1 :: a2 :: a3 :: a4 :: a5 :: a6 :: a7 :: a8 :: a9 :: a10 :: a11 :: a12 :: a13 :: a14 :: some (.int x) :: t) q (.int x :: st)) : V l G y cc nL ret R mc ms Z post L M cells slots (a0 :: a1 :: a2 :: a3 :: a4 :: a5 :: a6 :: a7 :: a8 :: a9 :: a10 :: a11 :: a12 :: a13 :: a14 :: some (.int x) :: t) pc (st) := by
  subst hq
  intro p e s m args below meth c r0 r H locs ls hC hZ hW hR hlo hls
  exact lv_iload hC.1 hC.2.1 d (hls.at (i := 15) rfl) (k p e s m args below meth c r0 r H locs ls hC hZ hW hR hlo hls)
theorem V_al15 (q : Nat) {a0 a1 a2 a3 a4 a5 a6 a7 a8 a9 a10 a11 a12 a13 a14 : Option Value} {t : List (Option Value)} {x : Nat} (d : decode cc pc = .ok (.aload 15, 2)) (hq : pc + 2 = q) (k : V l G y cc nL ret R mc ms Z post L M cells slots (a0 :: a1 :: a2 :: a3 :: a4 :: a5 :: a6 :: a7 :: a8 :: a9 :: a10 :: a11 :: a12 :: a13 :: a14 :: some (.ref x) :: t) q (.ref x :: st)) : V l G y cc nL ret R mc ms Z post L M cells slots (a0 :: a1 :: a2 :: a3 :: a4 :: a5 :: a6 :: a7 :: a8 :: a9 :: a10 :: a11 :: a12 :: a13 :: a14 :: some (.ref x) :: t) pc (st) := by
  subst hq
  intro p e s m args below meth c r0 r H locs ls hC hZ hW hR hlo hls
  exact lv_aload hC.1 hC.2.1 d (hls.at (i := 15) rfl) (k p e s m args below meth c r0 r H locs ls hC hZ hW hR hlo hls)
theorem V_an15 (q : Nat) {a0 a1 a2 a3 a4 a5 a6 a7 a8 a9 a10 a11 a12 a13 a14 : Option Value} {t : List (Option Value)}  (d : decode cc pc = .ok (.aload 15, 2)) (hq : pc + 2 = q) (k : V l G y cc nL ret R mc ms Z post L M cells slots (a0 :: a1 :: a2 :: a3 :: a4 :: a5 :: a6 :: a7 :: a8 :: a9 :: a10 :: a11 :: a12 :: a13 :: a14 :: some (.null) :: t) q (.null :: st)) : V l G y cc nL ret R mc ms Z post L M cells slots (a0 :: a1 :: a2 :: a3 :: a4 :: a5 :: a6 :: a7 :: a8 :: a9 :: a10 :: a11 :: a12 :: a13 :: a14 :: some (.null) :: t) pc (st) := by
  subst hq
  intro p e s m args below meth c r0 r H locs ls hC hZ hW hR hlo hls
  exact lv_aloadN hC.1 hC.2.1 d (hls.at (i := 15) rfl) (k p e s m args below meth c r0 r H locs ls hC hZ hW hR hlo hls)
theorem V_is15 (q : Nat) {a0 a1 a2 a3 a4 a5 a6 a7 a8 a9 a10 a11 a12 a13 a14 b : Option Value} {t : List (Option Value)} {x : Int32} (d : decode cc pc = .ok (.istore 15, 2)) (hn : 15 < nL) (hq : pc + 2 = q) (k : V l G y cc nL ret R mc ms Z post L M cells slots (a0 :: a1 :: a2 :: a3 :: a4 :: a5 :: a6 :: a7 :: a8 :: a9 :: a10 :: a11 :: a12 :: a13 :: a14 :: some (.int x) :: t) q st) : V l G y cc nL ret R mc ms Z post L M cells slots (a0 :: a1 :: a2 :: a3 :: a4 :: a5 :: a6 :: a7 :: a8 :: a9 :: a10 :: a11 :: a12 :: a13 :: a14 :: b :: t) pc (.int x :: st) := by
  subst hq
  intro p e s m args below meth c r0 r H locs ls hC hZ hW hR hlo hls
  exact lv_istore hC.1 hC.2.1 d hls.1 hn rfl (fun ls' h' => k p e s m args below meth c r0 r H locs ls' hC hZ hW hR hlo (gH.set (i := 15) (v := .int x) hls.2 rfl h'))
theorem V_as15 (q : Nat) {a0 a1 a2 a3 a4 a5 a6 a7 a8 a9 a10 a11 a12 a13 a14 b : Option Value} {t : List (Option Value)} {x : Nat} (d : decode cc pc = .ok (.astore 15, 2)) (hn : 15 < nL) (hq : pc + 2 = q) (k : V l G y cc nL ret R mc ms Z post L M cells slots (a0 :: a1 :: a2 :: a3 :: a4 :: a5 :: a6 :: a7 :: a8 :: a9 :: a10 :: a11 :: a12 :: a13 :: a14 :: some (.ref x) :: t) q st) : V l G y cc nL ret R mc ms Z post L M cells slots (a0 :: a1 :: a2 :: a3 :: a4 :: a5 :: a6 :: a7 :: a8 :: a9 :: a10 :: a11 :: a12 :: a13 :: a14 :: b :: t) pc (.ref x :: st) := by
  subst hq
  intro p e s m args below meth c r0 r H locs ls hC hZ hW hR hlo hls
  exact lv_astore hC.1 hC.2.1 d hls.1 hn rfl (fun ls' h' => k p e s m args below meth c r0 r H locs ls' hC hZ hW hR hlo (gH.set (i := 15) (v := .ref x) hls.2 rfl h'))
theorem V_az15 (q : Nat) {a0 a1 a2 a3 a4 a5 a6 a7 a8 a9 a10 a11 a12 a13 a14 b : Option Value} {t : List (Option Value)}  (d : decode cc pc = .ok (.astore 15, 2)) (hn : 15 < nL) (hq : pc + 2 = q) (k : V l G y cc nL ret R mc ms Z post L M cells slots (a0 :: a1 :: a2 :: a3 :: a4 :: a5 :: a6 :: a7 :: a8 :: a9 :: a10 :: a11 :: a12 :: a13 :: a14 :: some (.null) :: t) q st) : V l G y cc nL ret R mc ms Z post L M cells slots (a0 :: a1 :: a2 :: a3 :: a4 :: a5 :: a6 :: a7 :: a8 :: a9 :: a10 :: a11 :: a12 :: a13 :: a14 :: b :: t) pc (.null :: st) := by
  subst hq
  intro p e s m args below meth c r0 r H locs ls hC hZ hW hR hlo hls
  exact lv_astoreN hC.1 hC.2.1 d hls.1 hn rfl (fun ls' h' => k p e s m args below meth c r0 r H locs ls' hC hZ hW hR hlo (gH.set (i := 15) (v := .null) hls.2 rfl h'))
theorem V_ii15 (q : Nat) {a0 a1 a2 a3 a4 a5 a6 a7 a8 a9 a10 a11 a12 a13 a14 : Option Value} {t : List (Option Value)} {x v : Int32} {n : Int} (d : decode cc pc = .ok (.iinc 15 n, 3)) (hn : 15 < nL) (hv : Int32.ofInt n = v) (hq : pc + 3 = q) (k : V l G y cc nL ret R mc ms Z post L M cells slots (a0 :: a1 :: a2 :: a3 :: a4 :: a5 :: a6 :: a7 :: a8 :: a9 :: a10 :: a11 :: a12 :: a13 :: a14 :: some (.int (x + v)) :: t) q st) : V l G y cc nL ret R mc ms Z post L M cells slots (a0 :: a1 :: a2 :: a3 :: a4 :: a5 :: a6 :: a7 :: a8 :: a9 :: a10 :: a11 :: a12 :: a13 :: a14 :: some (.int x) :: t) pc st := by
  subst hq
  subst hv
  intro p e s m args below meth c r0 r H locs ls hC hZ hW hR hlo hls
  obtain ⟨k9, hk9⟩ := List.getElem?_of_mem (gP_mem.mpr ⟨.int x, rfl, rfl⟩ : (15, Value.int x) ∈ gP r (a0 :: a1 :: a2 :: a3 :: a4 :: a5 :: a6 :: a7 :: a8 :: a9 :: a10 :: a11 :: a12 :: a13 :: a14 :: some (.int x) :: t))
  exact lv_iinc hC.1 hC.2.1 d hls.1 hk9 rfl hn rfl (fun ls' h' => k p e s m args below meth c r0 r H locs ls' hC hZ hW hR hlo (gH.set (i := 15) (v := .int (x + Int32.ofInt n)) hls.2 rfl h'))
theorem V_il16 (q : Nat) {a0 a1 a2 a3 a4 a5 a6 a7 a8 a9 a10 a11 a12 a13 a14 a15 : Option Value} {t : List (Option Value)} {x : Int32} (d : decode cc pc = .ok (.iload 16, 2)) (hq : pc + 2 = q) (k : V l G y cc nL ret R mc ms Z post L M cells slots (a0 :: a1 :: a2 :: a3 :: a4 :: a5 :: a6 :: a7 :: a8 :: a9 :: a10 :: a11 :: a12 :: a13 :: a14 :: a15 :: some (.int x) :: t) q (.int x :: st)) : V l G y cc nL ret R mc ms Z post L M cells slots (a0 :: a1 :: a2 :: a3 :: a4 :: a5 :: a6 :: a7 :: a8 :: a9 :: a10 :: a11 :: a12 :: a13 :: a14 :: a15 :: some (.int x) :: t) pc (st) := by
  subst hq
  intro p e s m args below meth c r0 r H locs ls hC hZ hW hR hlo hls
  exact lv_iload hC.1 hC.2.1 d (hls.at (i := 16) rfl) (k p e s m args below meth c r0 r H locs ls hC hZ hW hR hlo hls)
theorem V_al16 (q : Nat) {a0 a1 a2 a3 a4 a5 a6 a7 a8 a9 a10 a11 a12 a13 a14 a15 : Option Value} {t : List (Option Value)} {x : Nat} (d : decode cc pc = .ok (.aload 16, 2)) (hq : pc + 2 = q) (k : V l G y cc nL ret R mc ms Z post L M cells slots (a0 :: a1 :: a2 :: a3 :: a4 :: a5 :: a6 :: a7 :: a8 :: a9 :: a10 :: a11 :: a12 :: a13 :: a14 :: a15 :: some (.ref x) :: t) q (.ref x :: st)) : V l G y cc nL ret R mc ms Z post L M cells slots (a0 :: a1 :: a2 :: a3 :: a4 :: a5 :: a6 :: a7 :: a8 :: a9 :: a10 :: a11 :: a12 :: a13 :: a14 :: a15 :: some (.ref x) :: t) pc (st) := by
  subst hq
  intro p e s m args below meth c r0 r H locs ls hC hZ hW hR hlo hls
  exact lv_aload hC.1 hC.2.1 d (hls.at (i := 16) rfl) (k p e s m args below meth c r0 r H locs ls hC hZ hW hR hlo hls)
theorem V_an16 (q : Nat) {a0 a1 a2 a3 a4 a5 a6 a7 a8 a9 a10 a11 a12 a13 a14 a15 : Option Value} {t : List (Option Value)}  (d : decode cc pc = .ok (.aload 16, 2)) (hq : pc + 2 = q) (k : V l G y cc nL ret R mc ms Z post L M cells slots (a0 :: a1 :: a2 :: a3 :: a4 :: a5 :: a6 :: a7 :: a8 :: a9 :: a10 :: a11 :: a12 :: a13 :: a14 :: a15 :: some (.null) :: t) q (.null :: st)) : V l G y cc nL ret R mc ms Z post L M cells slots (a0 :: a1 :: a2 :: a3 :: a4 :: a5 :: a6 :: a7 :: a8 :: a9 :: a10 :: a11 :: a12 :: a13 :: a14 :: a15 :: some (.null) :: t) pc (st) := by
  subst hq
  intro p e s m args below meth c r0 r H locs ls hC hZ hW hR hlo hls
  exact lv_aloadN hC.1 hC.2.1 d (hls.at (i := 16) rfl) (k p e s m args below meth c r0 r H locs ls hC hZ hW hR hlo hls)
theorem V_is16 (q : Nat) {a0 a1 a2 a3 a4 a5 a6 a7 a8 a9 a10 a11 a12 a13 a14 a15 b : Option Value} {t : List (Option Value)} {x : Int32} (d : decode cc pc = .ok (.istore 16, 2)) (hn : 16 < nL) (hq : pc + 2 = q) (k : V l G y cc nL ret R mc ms Z post L M cells slots (a0 :: a1 :: a2 :: a3 :: a4 :: a5 :: a6 :: a7 :: a8 :: a9 :: a10 :: a11 :: a12 :: a13 :: a14 :: a15 :: some (.int x) :: t) q st) : V l G y cc nL ret R mc ms Z post L M cells slots (a0 :: a1 :: a2 :: a3 :: a4 :: a5 :: a6 :: a7 :: a8 :: a9 :: a10 :: a11 :: a12 :: a13 :: a14 :: a15 :: b :: t) pc (.int x :: st) := by
  subst hq
  intro p e s m args below meth c r0 r H locs ls hC hZ hW hR hlo hls
  exact lv_istore hC.1 hC.2.1 d hls.1 hn rfl (fun ls' h' => k p e s m args below meth c r0 r H locs ls' hC hZ hW hR hlo (gH.set (i := 16) (v := .int x) hls.2 rfl h'))
theorem V_as16 (q : Nat) {a0 a1 a2 a3 a4 a5 a6 a7 a8 a9 a10 a11 a12 a13 a14 a15 b : Option Value} {t : List (Option Value)} {x : Nat} (d : decode cc pc = .ok (.astore 16, 2)) (hn : 16 < nL) (hq : pc + 2 = q) (k : V l G y cc nL ret R mc ms Z post L M cells slots (a0 :: a1 :: a2 :: a3 :: a4 :: a5 :: a6 :: a7 :: a8 :: a9 :: a10 :: a11 :: a12 :: a13 :: a14 :: a15 :: some (.ref x) :: t) q st) : V l G y cc nL ret R mc ms Z post L M cells slots (a0 :: a1 :: a2 :: a3 :: a4 :: a5 :: a6 :: a7 :: a8 :: a9 :: a10 :: a11 :: a12 :: a13 :: a14 :: a15 :: b :: t) pc (.ref x :: st) := by
  subst hq
  intro p e s m args below meth c r0 r H locs ls hC hZ hW hR hlo hls
  exact lv_astore hC.1 hC.2.1 d hls.1 hn rfl (fun ls' h' => k p e s m args below meth c r0 r H locs ls' hC hZ hW hR hlo (gH.set (i := 16) (v := .ref x) hls.2 rfl h'))
theorem V_az16 (q : Nat) {a0 a1 a2 a3 a4 a5 a6 a7 a8 a9 a10 a11 a12 a13 a14 a15 b : Option Value} {t : List (Option Value)}  (d : decode cc pc = .ok (.astore 16, 2)) (hn : 16 < nL) (hq : pc + 2 = q) (k : V l G y cc nL ret R mc ms Z post L M cells slots (a0 :: a1 :: a2 :: a3 :: a4 :: a5 :: a6 :: a7 :: a8 :: a9 :: a10 :: a11 :: a12 :: a13 :: a14 :: a15 :: some (.null) :: t) q st) : V l G y cc nL ret R mc ms Z post L M cells slots (a0 :: a1 :: a2 :: a3 :: a4 :: a5 :: a6 :: a7 :: a8 :: a9 :: a10 :: a11 :: a12 :: a13 :: a14 :: a15 :: b :: t) pc (.null :: st) := by
  subst hq
  intro p e s m args below meth c r0 r H locs ls hC hZ hW hR hlo hls
  exact lv_astoreN hC.1 hC.2.1 d hls.1 hn rfl (fun ls' h' => k p e s m args below meth c r0 r H locs ls' hC hZ hW hR hlo (gH.set (i := 16) (v := .null) hls.2 rfl h'))
theorem V_ii16 (q : Nat) {a0 a1 a2 a3 a4 a5 a6 a7 a8 a9 a10 a11 a12 a13 a14 a15 : Option Value} {t : List (Option Value)} {x v : Int32} {n : Int} (d : decode cc pc = .ok (.iinc 16 n, 3)) (hn : 16 < nL) (hv : Int32.ofInt n = v) (hq : pc + 3 = q) (k : V l G y cc nL ret R mc ms Z post L M cells slots (a0 :: a1 :: a2 :: a3 :: a4 :: a5 :: a6 :: a7 :: a8 :: a9 :: a10 :: a11 :: a12 :: a13 :: a14 :: a15 :: some (.int (x + v)) :: t) q st) : V l G y cc nL ret R mc ms Z post L M cells slots (a0 :: a1 :: a2 :: a3 :: a4 :: a5 :: a6 :: a7 :: a8 :: a9 :: a10 :: a11 :: a12 :: a13 :: a14 :: a15 :: some (.int x) :: t) pc st := by
  subst hq
  subst hv
  intro p e s m args below meth c r0 r H locs ls hC hZ hW hR hlo hls
  obtain ⟨k9, hk9⟩ := List.getElem?_of_mem (gP_mem.mpr ⟨.int x, rfl, rfl⟩ : (16, Value.int x) ∈ gP r (a0 :: a1 :: a2 :: a3 :: a4 :: a5 :: a6 :: a7 :: a8 :: a9 :: a10 :: a11 :: a12 :: a13 :: a14 :: a15 :: some (.int x) :: t))
  exact lv_iinc hC.1 hC.2.1 d hls.1 hk9 rfl hn rfl (fun ls' h' => k p e s m args below meth c r0 r H locs ls' hC hZ hW hR hlo (gH.set (i := 16) (v := .int (x + Int32.ofInt n)) hls.2 rfl h'))
theorem V_il17 (q : Nat) {a0 a1 a2 a3 a4 a5 a6 a7 a8 a9 a10 a11 a12 a13 a14 a15 a16 : Option Value} {t : List (Option Value)} {x : Int32} (d : decode cc pc = .ok (.iload 17, 2)) (hq : pc + 2 = q) (k : V l G y cc nL ret R mc ms Z post L M cells slots (a0 :: a1 :: a2 :: a3 :: a4 :: a5 :: a6 :: a7 :: a8 :: a9 :: a10 :: a11 :: a12 :: a13 :: a14 :: a15 :: a16 :: some (.int x) :: t) q (.int x :: st)) : V l G y cc nL ret R mc ms Z post L M cells slots (a0 :: a1 :: a2 :: a3 :: a4 :: a5 :: a6 :: a7 :: a8 :: a9 :: a10 :: a11 :: a12 :: a13 :: a14 :: a15 :: a16 :: some (.int x) :: t) pc (st) := by
  subst hq
  intro p e s m args below meth c r0 r H locs ls hC hZ hW hR hlo hls
  exact lv_iload hC.1 hC.2.1 d (hls.at (i := 17) rfl) (k p e s m args below meth c r0 r H locs ls hC hZ hW hR hlo hls)
theorem V_al17 (q : Nat) {a0 a1 a2 a3 a4 a5 a6 a7 a8 a9 a10 a11 a12 a13 a14 a15 a16 : Option Value} {t : List (Option Value)} {x : Nat} (d : decode cc pc = .ok (.aload 17, 2)) (hq : pc + 2 = q) (k : V l G y cc nL ret R mc ms Z post L M cells slots (a0 :: a1 :: a2 :: a3 :: a4 :: a5 :: a6 :: a7 :: a8 :: a9 :: a10 :: a11 :: a12 :: a13 :: a14 :: a15 :: a16 :: some (.ref x) :: t) q (.ref x :: st)) : V l G y cc nL ret R mc ms Z post L M cells slots (a0 :: a1 :: a2 :: a3 :: a4 :: a5 :: a6 :: a7 :: a8 :: a9 :: a10 :: a11 :: a12 :: a13 :: a14 :: a15 :: a16 :: some (.ref x) :: t) pc (st) := by
  subst hq
  intro p e s m args below meth c r0 r H locs ls hC hZ hW hR hlo hls
  exact lv_aload hC.1 hC.2.1 d (hls.at (i := 17) rfl) (k p e s m args below meth c r0 r H locs ls hC hZ hW hR hlo hls)
theorem V_an17 (q : Nat) {a0 a1 a2 a3 a4 a5 a6 a7 a8 a9 a10 a11 a12 a13 a14 a15 a16 : Option Value} {t : List (Option Value)}  (d : decode cc pc = .ok (.aload 17, 2)) (hq : pc + 2 = q) (k : V l G y cc nL ret R mc ms Z post L M cells slots (a0 :: a1 :: a2 :: a3 :: a4 :: a5 :: a6 :: a7 :: a8 :: a9 :: a10 :: a11 :: a12 :: a13 :: a14 :: a15 :: a16 :: some (.null) :: t) q (.null :: st)) : V l G y cc nL ret R mc ms Z post L M cells slots (a0 :: a1 :: a2 :: a3 :: a4 :: a5 :: a6 :: a7 :: a8 :: a9 :: a10 :: a11 :: a12 :: a13 :: a14 :: a15 :: a16 :: some (.null) :: t) pc (st) := by
  subst hq
  intro p e s m args below meth c r0 r H locs ls hC hZ hW hR hlo hls
  exact lv_aloadN hC.1 hC.2.1 d (hls.at (i := 17) rfl) (k p e s m args below meth c r0 r H locs ls hC hZ hW hR hlo hls)
theorem V_is17 (q : Nat) {a0 a1 a2 a3 a4 a5 a6 a7 a8 a9 a10 a11 a12 a13 a14 a15 a16 b : Option Value} {t : List (Option Value)} {x : Int32} (d : decode cc pc = .ok (.istore 17, 2)) (hn : 17 < nL) (hq : pc + 2 = q) (k : V l G y cc nL ret R mc ms Z post L M cells slots (a0 :: a1 :: a2 :: a3 :: a4 :: a5 :: a6 :: a7 :: a8 :: a9 :: a10 :: a11 :: a12 :: a13 :: a14 :: a15 :: a16 :: some (.int x) :: t) q st) : V l G y cc nL ret R mc ms Z post L M cells slots (a0 :: a1 :: a2 :: a3 :: a4 :: a5 :: a6 :: a7 :: a8 :: a9 :: a10 :: a11 :: a12 :: a13 :: a14 :: a15 :: a16 :: b :: t) pc (.int x :: st) := by
  subst hq
  intro p e s m args below meth c r0 r H locs ls hC hZ hW hR hlo hls
  exact lv_istore hC.1 hC.2.1 d hls.1 hn rfl (fun ls' h' => k p e s m args below meth c r0 r H locs ls' hC hZ hW hR hlo (gH.set (i := 17) (v := .int x) hls.2 rfl h'))
theorem V_as17 (q : Nat) {a0 a1 a2 a3 a4 a5 a6 a7 a8 a9 a10 a11 a12 a13 a14 a15 a16 b : Option Value} {t : List (Option Value)} {x : Nat} (d : decode cc pc = .ok (.astore 17, 2)) (hn : 17 < nL) (hq : pc + 2 = q) (k : V l G y cc nL ret R mc ms Z post L M cells slots (a0 :: a1 :: a2 :: a3 :: a4 :: a5 :: a6 :: a7 :: a8 :: a9 :: a10 :: a11 :: a12 :: a13 :: a14 :: a15 :: a16 :: some (.ref x) :: t) q st) : V l G y cc nL ret R mc ms Z post L M cells slots (a0 :: a1 :: a2 :: a3 :: a4 :: a5 :: a6 :: a7 :: a8 :: a9 :: a10 :: a11 :: a12 :: a13 :: a14 :: a15 :: a16 :: b :: t) pc (.ref x :: st) := by
  subst hq
  intro p e s m args below meth c r0 r H locs ls hC hZ hW hR hlo hls
  exact lv_astore hC.1 hC.2.1 d hls.1 hn rfl (fun ls' h' => k p e s m args below meth c r0 r H locs ls' hC hZ hW hR hlo (gH.set (i := 17) (v := .ref x) hls.2 rfl h'))
theorem V_az17 (q : Nat) {a0 a1 a2 a3 a4 a5 a6 a7 a8 a9 a10 a11 a12 a13 a14 a15 a16 b : Option Value} {t : List (Option Value)}  (d : decode cc pc = .ok (.astore 17, 2)) (hn : 17 < nL) (hq : pc + 2 = q) (k : V l G y cc nL ret R mc ms Z post L M cells slots (a0 :: a1 :: a2 :: a3 :: a4 :: a5 :: a6 :: a7 :: a8 :: a9 :: a10 :: a11 :: a12 :: a13 :: a14 :: a15 :: a16 :: some (.null) :: t) q st) : V l G y cc nL ret R mc ms Z post L M cells slots (a0 :: a1 :: a2 :: a3 :: a4 :: a5 :: a6 :: a7 :: a8 :: a9 :: a10 :: a11 :: a12 :: a13 :: a14 :: a15 :: a16 :: b :: t) pc (.null :: st) := by
  subst hq
  intro p e s m args below meth c r0 r H locs ls hC hZ hW hR hlo hls
  exact lv_astoreN hC.1 hC.2.1 d hls.1 hn rfl (fun ls' h' => k p e s m args below meth c r0 r H locs ls' hC hZ hW hR hlo (gH.set (i := 17) (v := .null) hls.2 rfl h'))
theorem V_ii17 (q : Nat) {a0 a1 a2 a3 a4 a5 a6 a7 a8 a9 a10 a11 a12 a13 a14 a15 a16 : Option Value} {t : List (Option Value)} {x v : Int32} {n : Int} (d : decode cc pc = .ok (.iinc 17 n, 3)) (hn : 17 < nL) (hv : Int32.ofInt n = v) (hq : pc + 3 = q) (k : V l G y cc nL ret R mc ms Z post L M cells slots (a0 :: a1 :: a2 :: a3 :: a4 :: a5 :: a6 :: a7 :: a8 :: a9 :: a10 :: a11 :: a12 :: a13 :: a14 :: a15 :: a16 :: some (.int (x + v)) :: t) q st) : V l G y cc nL ret R mc ms Z post L M cells slots (a0 :: a1 :: a2 :: a3 :: a4 :: a5 :: a6 :: a7 :: a8 :: a9 :: a10 :: a11 :: a12 :: a13 :: a14 :: a15 :: a16 :: some (.int x) :: t) pc st := by
  subst hq
  subst hv
  intro p e s m args below meth c r0 r H locs ls hC hZ hW hR hlo hls
  obtain ⟨k9, hk9⟩ := List.getElem?_of_mem (gP_mem.mpr ⟨.int x, rfl, rfl⟩ : (17, Value.int x) ∈ gP r (a0 :: a1 :: a2 :: a3 :: a4 :: a5 :: a6 :: a7 :: a8 :: a9 :: a10 :: a11 :: a12 :: a13 :: a14 :: a15 :: a16 :: some (.int x) :: t))
  exact lv_iinc hC.1 hC.2.1 d hls.1 hk9 rfl hn rfl (fun ls' h' => k p e s m args below meth c r0 r H locs ls' hC hZ hW hR hlo (gH.set (i := 17) (v := .int (x + Int32.ofInt n)) hls.2 rfl h'))
theorem V_il18 (q : Nat) {a0 a1 a2 a3 a4 a5 a6 a7 a8 a9 a10 a11 a12 a13 a14 a15 a16 a17 : Option Value} {t : List (Option Value)} {x : Int32} (d : decode cc pc = .ok (.iload 18, 2)) (hq : pc + 2 = q) (k : V l G y cc nL ret R mc ms Z post L M cells slots (a0 :: a1 :: a2 :: a3 :: a4 :: a5 :: a6 :: a7 :: a8 :: a9 :: a10 :: a11 :: a12 :: a13 :: a14 :: a15 :: a16 :: a17 :: some (.int x) :: t) q (.int x :: st)) : V l G y cc nL ret R mc ms Z post L M cells slots (a0 :: a1 :: a2 :: a3 :: a4 :: a5 :: a6 :: a7 :: a8 :: a9 :: a10 :: a11 :: a12 :: a13 :: a14 :: a15 :: a16 :: a17 :: some (.int x) :: t) pc (st) := by
  subst hq
  intro p e s m args below meth c r0 r H locs ls hC hZ hW hR hlo hls
  exact lv_iload hC.1 hC.2.1 d (hls.at (i := 18) rfl) (k p e s m args below meth c r0 r H locs ls hC hZ hW hR hlo hls)
theorem V_al18 (q : Nat) {a0 a1 a2 a3 a4 a5 a6 a7 a8 a9 a10 a11 a12 a13 a14 a15 a16 a17 : Option Value} {t : List (Option Value)} {x : Nat} (d : decode cc pc = .ok (.aload 18, 2)) (hq : pc + 2 = q) (k : V l G y cc nL ret R mc ms Z post L M cells slots (a0 :: a1 :: a2 :: a3 :: a4 :: a5 :: a6 :: a7 :: a8 :: a9 :: a10 :: a11 :: a12 :: a13 :: a14 :: a15 :: a16 :: a17 :: some (.ref x) :: t) q (.ref x :: st)) : V l G y cc nL ret R mc ms Z post L M cells slots (a0 :: a1 :: a2 :: a3 :: a4 :: a5 :: a6 :: a7 :: a8 :: a9 :: a10 :: a11 :: a12 :: a13 :: a14 :: a15 :: a16 :: a17 :: some (.ref x) :: t) pc (st) := by
  subst hq
  intro p e s m args below meth c r0 r H locs ls hC hZ hW hR hlo hls
  exact lv_aload hC.1 hC.2.1 d (hls.at (i := 18) rfl) (k p e s m args below meth c r0 r H locs ls hC hZ hW hR hlo hls)
theorem V_an18 (q : Nat) {a0 a1 a2 a3 a4 a5 a6 a7 a8 a9 a10 a11 a12 a13 a14 a15 a16 a17 : Option Value} {t : List (Option Value)}  (d : decode cc pc = .ok (.aload 18, 2)) (hq : pc + 2 = q) (k : V l G y cc nL ret R mc ms Z post L M cells slots (a0 :: a1 :: a2 :: a3 :: a4 :: a5 :: a6 :: a7 :: a8 :: a9 :: a10 :: a11 :: a12 :: a13 :: a14 :: a15 :: a16 :: a17 :: some (.null) :: t) q (.null :: st)) : V l G y cc nL ret R mc ms Z post L M cells slots (a0 :: a1 :: a2 :: a3 :: a4 :: a5 :: a6 :: a7 :: a8 :: a9 :: a10 :: a11 :: a12 :: a13 :: a14 :: a15 :: a16 :: a17 :: some (.null) :: t) pc (st) := by
  subst hq
  intro p e s m args below meth c r0 r H locs ls hC hZ hW hR hlo hls
  exact lv_aloadN hC.1 hC.2.1 d (hls.at (i := 18) rfl) (k p e s m args below meth c r0 r H locs ls hC hZ hW hR hlo hls)
theorem V_is18 (q : Nat) {a0 a1 a2 a3 a4 a5 a6 a7 a8 a9 a10 a11 a12 a13 a14 a15 a16 a17 b : Option Value} {t : List (Option Value)} {x : Int32} (d : decode cc pc = .ok (.istore 18, 2)) (hn : 18 < nL) (hq : pc + 2 = q) (k : V l G y cc nL ret R mc ms Z post L M cells slots (a0 :: a1 :: a2 :: a3 :: a4 :: a5 :: a6 :: a7 :: a8 :: a9 :: a10 :: a11 :: a12 :: a13 :: a14 :: a15 :: a16 :: a17 :: some (.int x) :: t) q st) : V l G y cc nL ret R mc ms Z post L M cells slots (a0 :: a1 :: a2 :: a3 :: a4 :: a5 :: a6 :: a7 :: a8 :: a9 :: a10 :: a11 :: a12 :: a13 :: a14 :: a15 :: a16 :: a17 :: b :: t) pc (.int x :: st) := by
  subst hq
  intro p e s m args below meth c r0 r H locs ls hC hZ hW hR hlo hls
  exact lv_istore hC.1 hC.2.1 d hls.1 hn rfl (fun ls' h' => k p e s m args below meth c r0 r H locs ls' hC hZ hW hR hlo (gH.set (i := 18) (v := .int x) hls.2 rfl h'))
theorem V_as18 (q : Nat) {a0 a1 a2 a3 a4 a5 a6 a7 a8 a9 a10 a11 a12 a13 a14 a15 a16 a17 b : Option Value} {t : List (Option Value)} {x : Nat} (d : decode cc pc = .ok (.astore 18, 2)) (hn : 18 < nL) (hq : pc + 2 = q) (k : V l G y cc nL ret R mc ms Z post L M cells slots (a0 :: a1 :: a2 :: a3 :: a4 :: a5 :: a6 :: a7 :: a8 :: a9 :: a10 :: a11 :: a12 :: a13 :: a14 :: a15 :: a16 :: a17 :: some (.ref x) :: t) q st) : V l G y cc nL ret R mc ms Z post L M cells slots (a0 :: a1 :: a2 :: a3 :: a4 :: a5 :: a6 :: a7 :: a8 :: a9 :: a10 :: a11 :: a12 :: a13 :: a14 :: a15 :: a16 :: a17 :: b :: t) pc (.ref x :: st) := by
  subst hq
  intro p e s m args below meth c r0 r H locs ls hC hZ hW hR hlo hls
  exact lv_astore hC.1 hC.2.1 d hls.1 hn rfl (fun ls' h' => k p e s m args below meth c r0 r H locs ls' hC hZ hW hR hlo (gH.set (i := 18) (v := .ref x) hls.2 rfl h'))
theorem V_az18 (q : Nat) {a0 a1 a2 a3 a4 a5 a6 a7 a8 a9 a10 a11 a12 a13 a14 a15 a16 a17 b : Option Value} {t : List (Option Value)}  (d : decode cc pc = .ok (.astore 18, 2)) (hn : 18 < nL) (hq : pc + 2 = q) (k : V l G y cc nL ret R mc ms Z post L M cells slots (a0 :: a1 :: a2 :: a3 :: a4 :: a5 :: a6 :: a7 :: a8 :: a9 :: a10 :: a11 :: a12 :: a13 :: a14 :: a15 :: a16 :: a17 :: some (.null) :: t) q st) : V l G y cc nL ret R mc ms Z post L M cells slots (a0 :: a1 :: a2 :: a3 :: a4 :: a5 :: a6 :: a7 :: a8 :: a9 :: a10 :: a11 :: a12 :: a13 :: a14 :: a15 :: a16 :: a17 :: b :: t) pc (.null :: st) := by
  subst hq
  intro p e s m args below meth c r0 r H locs ls hC hZ hW hR hlo hls
  exact lv_astoreN hC.1 hC.2.1 d hls.1 hn rfl (fun ls' h' => k p e s m args below meth c r0 r H locs ls' hC hZ hW hR hlo (gH.set (i := 18) (v := .null) hls.2 rfl h'))
theorem V_ii18 (q : Nat) {a0 a1 a2 a3 a4 a5 a6 a7 a8 a9 a10 a11 a12 a13 a14 a15 a16 a17 : Option Value} {t : List (Option Value)} {x v : Int32} {n : Int} (d : decode cc pc = .ok (.iinc 18 n, 3)) (hn : 18 < nL) (hv : Int32.ofInt n = v) (hq : pc + 3 = q) (k : V l G y cc nL ret R mc ms Z post L M cells slots (a0 :: a1 :: a2 :: a3 :: a4 :: a5 :: a6 :: a7 :: a8 :: a9 :: a10 :: a11 :: a12 :: a13 :: a14 :: a15 :: a16 :: a17 :: some (.int (x + v)) :: t) q st) : V l G y cc nL ret R mc ms Z post L M cells slots (a0 :: a1 :: a2 :: a3 :: a4 :: a5 :: a6 :: a7 :: a8 :: a9 :: a10 :: a11 :: a12 :: a13 :: a14 :: a15 :: a16 :: a17 :: some (.int x) :: t) pc st := by
  subst hq
  subst hv
  intro p e s m args below meth c r0 r H locs ls hC hZ hW hR hlo hls
  obtain ⟨k9, hk9⟩ := List.getElem?_of_mem (gP_mem.mpr ⟨.int x, rfl, rfl⟩ : (18, Value.int x) ∈ gP r (a0 :: a1 :: a2 :: a3 :: a4 :: a5 :: a6 :: a7 :: a8 :: a9 :: a10 :: a11 :: a12 :: a13 :: a14 :: a15 :: a16 :: a17 :: some (.int x) :: t))
  exact lv_iinc hC.1 hC.2.1 d hls.1 hk9 rfl hn rfl (fun ls' h' => k p e s m args below meth c r0 r H locs ls' hC hZ hW hR hlo (gH.set (i := 18) (v := .int (x + Int32.ofInt n)) hls.2 rfl h'))
theorem V_il19 (q : Nat) {a0 a1 a2 a3 a4 a5 a6 a7 a8 a9 a10 a11 a12 a13 a14 a15 a16 a17 a18 : Option Value} {t : List (Option Value)} {x : Int32} (d : decode cc pc = .ok (.iload 19, 2)) (hq : pc + 2 = q) (k : V l G y cc nL ret R mc ms Z post L M cells slots (a0 :: a1 :: a2 :: a3 :: a4 :: a5 :: a6 :: a7 :: a8 :: a9 :: a10 :: a11 :: a12 :: a13 :: a14 :: a15 :: a16 :: a17 :: a18 :: some (.int x) :: t) q (.int x :: st)) : V l G y cc nL ret R mc ms Z post L M cells slots (a0 :: a1 :: a2 :: a3 :: a4 :: a5 :: a6 :: a7 :: a8 :: a9 :: a10 :: a11 :: a12 :: a13 :: a14 :: a15 :: a16 :: a17 :: a18 :: some (.int x) :: t) pc (st) := by
  subst hq
  intro p e s m args below meth c r0 r H locs ls hC hZ hW hR hlo hls
  exact lv_iload hC.1 hC.2.1 d (hls.at (i := 19) rfl) (k p e s m args below meth c r0 r H locs ls hC hZ hW hR hlo hls)
theorem V_al19 (q : Nat) {a0 a1 a2 a3 a4 a5 a6 a7 a8 a9 a10 a11 a12 a13 a14 a15 a16 a17 a18 : Option Value} {t : List (Option Value)} {x : Nat} (d : decode cc pc = .ok (.aload 19, 2)) (hq : pc + 2 = q) (k : V l G y cc nL ret R mc ms Z post L M cells slots (a0 :: a1 :: a2 :: a3 :: a4 :: a5 :: a6 :: a7 :: a8 :: a9 :: a10 :: a11 :: a12 :: a13 :: a14 :: a15 :: a16 :: a17 :: a18 :: some (.ref x) :: t) q (.ref x :: st)) : V l G y cc nL ret R mc ms Z post L M cells slots (a0 :: a1 :: a2 :: a3 :: a4 :: a5 :: a6 :: a7 :: a8 :: a9 :: a10 :: a11 :: a12 :: a13 :: a14 :: a15 :: a16 :: a17 :: a18 :: some (.ref x) :: t) pc (st) := by
  subst hq
  intro p e s m args below meth c r0 r H locs ls hC hZ hW hR hlo hls
  exact lv_aload hC.1 hC.2.1 d (hls.at (i := 19) rfl) (k p e s m args below meth c r0 r H locs ls hC hZ hW hR hlo hls)
theorem V_an19 (q : Nat) {a0 a1 a2 a3 a4 a5 a6 a7 a8 a9 a10 a11 a12 a13 a14 a15 a16 a17 a18 : Option Value} {t : List (Option Value)}  (d : decode cc pc = .ok (.aload 19, 2)) (hq : pc + 2 = q) (k : V l G y cc nL ret R mc ms Z post L M cells slots (a0 :: a1 :: a2 :: a3 :: a4 :: a5 :: a6 :: a7 :: a8 :: a9 :: a10 :: a11 :: a12 :: a13 :: a14 :: a15 :: a16 :: a17 :: a18 :: some (.null) :: t) q (.null :: st)) : V l G y cc nL ret R mc ms Z post L M cells slots (a0 :: a1 :: a2 :: a3 :: a4 :: a5 :: a6 :: a7 :: a8 :: a9 :: a10 :: a11 :: a12 :: a13 :: a14 :: a15 :: a16 :: a17 :: a18 :: some (.null) :: t) pc (st) := by
  subst hq
  intro p e s m args below meth c r0 r H locs ls hC hZ hW hR hlo hls
  exact lv_aloadN hC.1 hC.2.1 d (hls.at (i := 19) rfl) (k p e s m args below meth c r0 r H locs ls hC hZ hW hR hlo hls)
theorem V_is19 (q : Nat) {a0 a1 a2 a3 a4 a5 a6 a7 a8 a9 a10 a11 a12 a13 a14 a15 a16 a17 a18 b : Option Value} {t : List (Option Value)} {x : Int32} (d : decode cc pc = .ok (.istore 19, 2)) (hn : 19 < nL) (hq : pc + 2 = q) (k : V l G y cc nL ret R mc ms Z post L M cells slots (a0 :: a1 :: a2 :: a3 :: a4 :: a5 :: a6 :: a7 :: a8 :: a9 :: a10 :: a11 :: a12 :: a13 :: a14 :: a15 :: a16 :: a17 :: a18 :: some (.int x) :: t) q st) : V l G y cc nL ret R mc ms Z post L M cells slots (a0 :: a1 :: a2 :: a3 :: a4 :: a5 :: a6 :: a7 :: a8 :: a9 :: a10 :: a11 :: a12 :: a13 :: a14 :: a15 :: a16 :: a17 :: a18 :: b :: t) pc (.int x :: st) := by
  subst hq
  intro p e s m args below meth c r0 r H locs ls hC hZ hW hR hlo hls
  exact lv_istore hC.1 hC.2.1 d hls.1 hn rfl (fun ls' h' => k p e s m args below meth c r0 r H locs ls' hC hZ hW hR hlo (gH.set (i := 19) (v := .int x) hls.2 rfl h'))
theorem V_as19 (q : Nat) {a0 a1 a2 a3 a4 a5 a6 a7 a8 a9 a10 a11 a12 a13 a14 a15 a16 a17 a18 b : Option Value} {t : List (Option Value)} {x : Nat} (d : decode cc pc = .ok (.astore 19, 2)) (hn : 19 < nL) (hq : pc + 2 = q) (k : V l G y cc nL ret R mc ms Z post L M cells slots (a0 :: a1 :: a2 :: a3 :: a4 :: a5 :: a6 :: a7 :: a8 :: a9 :: a10 :: a11 :: a12 :: a13 :: a14 :: a15 :: a16 :: a17 :: a18 :: some (.ref x) :: t) q st) : V l G y cc nL ret R mc ms Z post L M cells slots (a0 :: a1 :: a2 :: a3 :: a4 :: a5 :: a6 :: a7 :: a8 :: a9 :: a10 :: a11 :: a12 :: a13 :: a14 :: a15 :: a16 :: a17 :: a18 :: b :: t) pc (.ref x :: st) := by
  subst hq
  intro p e s m args below meth c r0 r H locs ls hC hZ hW hR hlo hls
  exact lv_astore hC.1 hC.2.1 d hls.1 hn rfl (fun ls' h' => k p e s m args below meth c r0 r H locs ls' hC hZ hW hR hlo (gH.set (i := 19) (v := .ref x) hls.2 rfl h'))
theorem V_az19 (q : Nat) {a0 a1 a2 a3 a4 a5 a6 a7 a8 a9 a10 a11 a12 a13 a14 a15 a16 a17 a18 b : Option Value} {t : List (Option Value)}  (d : decode cc pc = .ok (.astore 19, 2)) (hn : 19 < nL) (hq : pc + 2 = q) (k : V l G y cc nL ret R mc ms Z post L M cells slots (a0 :: a1 :: a2 :: a3 :: a4 :: a5 :: a6 :: a7 :: a8 :: a9 :: a10 :: a11 :: a12 :: a13 :: a14 :: a15 :: a16 :: a17 :: a18 :: some (.null) :: t) q st) : V l G y cc nL ret R mc ms Z post L M cells slots (a0 :: a1 :: a2 :: a3 :: a4 :: a5 :: a6 :: a7 :: a8 :: a9 :: a10 :: a11 :: a12 :: a13 :: a14 :: a15 :: a16 :: a17 :: a18 :: b :: t) pc (.null :: st) := by
  subst hq
  intro p e s m args below meth c r0 r H locs ls hC hZ hW hR hlo hls
  exact lv_astoreN hC.1 hC.2.1 d hls.1 hn rfl (fun ls' h' => k p e s m args below meth c r0 r H locs ls' hC hZ hW hR hlo (gH.set (i := 19) (v := .null) hls.2 rfl h'))
theorem V_ii19 (q : Nat) {a0 a1 a2 a3 a4 a5 a6 a7 a8 a9 a10 a11 a12 a13 a14 a15 a16 a17 a18 : Option Value} {t : List (Option Value)} {x v : Int32} {n : Int} (d : decode cc pc = .ok (.iinc 19 n, 3)) (hn : 19 < nL) (hv : Int32.ofInt n = v) (hq : pc + 3 = q) (k : V l G y cc nL ret R mc ms Z post L M cells slots (a0 :: a1 :: a2 :: a3 :: a4 :: a5 :: a6 :: a7 :: a8 :: a9 :: a10 :: a11 :: a12 :: a13 :: a14 :: a15 :: a16 :: a17 :: a18 :: some (.int (x + v)) :: t) q st) : V l G y cc nL ret R mc ms Z post L M cells slots (a0 :: a1 :: a2 :: a3 :: a4 :: a5 :: a6 :: a7 :: a8 :: a9 :: a10 :: a11 :: a12 :: a13 :: a14 :: a15 :: a16 :: a17 :: a18 :: some (.int x) :: t) pc st := by
  subst hq
  subst hv
  intro p e s m args below meth c r0 r H locs ls hC hZ hW hR hlo hls
  obtain ⟨k9, hk9⟩ := List.getElem?_of_mem (gP_mem.mpr ⟨.int x, rfl, rfl⟩ : (19, Value.int x) ∈ gP r (a0 :: a1 :: a2 :: a3 :: a4 :: a5 :: a6 :: a7 :: a8 :: a9 :: a10 :: a11 :: a12 :: a13 :: a14 :: a15 :: a16 :: a17 :: a18 :: some (.int x) :: t))
  exact lv_iinc hC.1 hC.2.1 d hls.1 hk9 rfl hn rfl (fun ls' h' => k p e s m args below meth c r0 r H locs ls' hC hZ hW hR hlo (gH.set (i := 19) (v := .int (x + Int32.ofInt n)) hls.2 rfl h'))
theorem V_il20 (q : Nat) {a0 a1 a2 a3 a4 a5 a6 a7 a8 a9 a10 a11 a12 a13 a14 a15 a16 a17 a18 a19 : Option Value} {t : List (Option Value)} {x : Int32} (d : decode cc pc = .ok (.iload 20, 2)) (hq : pc + 2 = q) (k : V l G y cc nL ret R mc ms Z post L M cells slots (a0 :: a1 :: a2 :: a3 :: a4 :: a5 :: a6 :: a7 :: a8 :: a9 :: a10 :: a11 :: a12 :: a13 :: a14 :: a15 :: a16 :: a17 :: a18 :: a19 :: some (.int x) :: t) q (.int x :: st)) : V l G y cc nL ret R mc ms Z post L M cells slots (a0 :: a1 :: a2 :: a3 :: a4 :: a5 :: a6 :: a7 :: a8 :: a9 :: a10 :: a11 :: a12 :: a13 :: a14 :: a15 :: a16 :: a17 :: a18 :: a19 :: some (.int x) :: t) pc (st) := by
  subst hq
  intro p e s m args below meth c r0 r H locs ls hC hZ hW hR hlo hls
  exact lv_iload hC.1 hC.2.1 d (hls.at (i := 20) rfl) (k p e s m args below meth c r0 r H locs ls hC hZ hW hR hlo hls)
theorem V_al20 (q : Nat) {a0 a1 a2 a3 a4 a5 a6 a7 a8 a9 a10 a11 a12 a13 a14 a15 a16 a17 a18 a19 : Option Value} {t : List (Option Value)} {x : Nat} (d : decode cc pc = .ok (.aload 20, 2)) (hq : pc + 2 = q) (k : V l G y cc nL ret R mc ms Z post L M cells slots (a0 :: a1 :: a2 :: a3 :: a4 :: a5 :: a6 :: a7 :: a8 :: a9 :: a10 :: a11 :: a12 :: a13 :: a14 :: a15 :: a16 :: a17 :: a18 :: a19 :: some (.ref x) :: t) q (.ref x :: st)) : V l G y cc nL ret R mc ms Z post L M cells slots (a0 :: a1 :: a2 :: a3 :: a4 :: a5 :: a6 :: a7 :: a8 :: a9 :: a10 :: a11 :: a12 :: a13 :: a14 :: a15 :: a16 :: a17 :: a18 :: a19 :: some (.ref x) :: t) pc (st) := by
  subst hq
  intro p e s m args below meth c r0 r H locs ls hC hZ hW hR hlo hls
  exact lv_aload hC.1 hC.2.1 d (hls.at (i := 20) rfl) (k p e s m args below meth c r0 r H locs ls hC hZ hW hR hlo hls)
theorem V_an20 (q : Nat) {a0 a1 a2 a3 a4 a5 a6 a7 a8 a9 a10 a11 a12 a13 a14 a15 a16 a17 a18 a19 : Option Value} {t : List (Option Value)}  (d : decode cc pc = .ok (.aload 20, 2)) (hq : pc + 2 = q) (k : V l G y cc nL ret R mc ms Z post L M cells slots (a0 :: a1 :: a2 :: a3 :: a4 :: a5 :: a6 :: a7 :: a8 :: a9 :: a10 :: a11 :: a12 :: a13 :: a14 :: a15 :: a16 :: a17 :: a18 :: a19 :: some (.null) :: t) q (.null :: st)) : V l G y cc nL ret R mc ms Z post L M cells slots (a0 :: a1 :: a2 :: a3 :: a4 :: a5 :: a6 :: a7 :: a8 :: a9 :: a10 :: a11 :: a12 :: a13 :: a14 :: a15 :: a16 :: a17 :: a18 :: a19 :: some (.null) :: t) pc (st) := by
  subst hq
  intro p e s m args below meth c r0 r H locs ls hC hZ hW hR hlo hls
  exact lv_aloadN hC.1 hC.2.1 d (hls.at (i := 20) rfl) (k p e s m args below meth c r0 r H locs ls hC hZ hW hR hlo hls)
theorem V_is20 (q : Nat) {a0 a1 a2 a3 a4 a5 a6 a7 a8 a9 a10 a11 a12 a13 a14 a15 a16 a17 a18 a19 b : Option Value} {t : List (Option Value)} {x : Int32} (d : decode cc pc = .ok (.istore 20, 2)) (hn : 20 < nL) (hq : pc + 2 = q) (k : V l G y cc nL ret R mc ms Z post L M cells slots (a0 :: a1 :: a2 :: a3 :: a4 :: a5 :: a6 :: a7 :: a8 :: a9 :: a10 :: a11 :: a12 :: a13 :: a14 :: a15 :: a16 :: a17 :: a18 :: a19 :: some (.int x) :: t) q st) : V l G y cc nL ret R mc ms Z post L M cells slots (a0 :: a1 :: a2 :: a3 :: a4 :: a5 :: a6 :: a7 :: a8 :: a9 :: a10 :: a11 :: a12 :: a13 :: a14 :: a15 :: a16 :: a17 :: a18 :: a19 :: b :: t) pc (.int x :: st) := by
  subst hq
  intro p e s m args below meth c r0 r H locs ls hC hZ hW hR hlo hls
  exact lv_istore hC.1 hC.2.1 d hls.1 hn rfl (fun ls' h' => k p e s m args below meth c r0 r H locs ls' hC hZ hW hR hlo (gH.set (i := 20) (v := .int x) hls.2 rfl h'))
theorem V_as20 (q : Nat) {a0 a1 a2 a3 a4 a5 a6 a7 a8 a9 a10 a11 a12 a13 a14 a15 a16 a17 a18 a19 b : Option Value} {t : List (Option Value)} {x : Nat} (d : decode cc pc = .ok (.astore 20, 2)) (hn : 20 < nL) (hq : pc + 2 = q) (k : V l G y cc nL ret R mc ms Z post L M cells slots (a0 :: a1 :: a2 :: a3 :: a4 :: a5 :: a6 :: a7 :: a8 :: a9 :: a10 :: a11 :: a12 :: a13 :: a14 :: a15 :: a16 :: a17 :: a18 :: a19 :: some (.ref x) :: t) q st) : V l G y cc nL ret R mc ms Z post L M cells slots (a0 :: a1 :: a2 :: a3 :: a4 :: a5 :: a6 :: a7 :: a8 :: a9 :: a10 :: a11 :: a12 :: a13 :: a14 :: a15 :: a16 :: a17 :: a18 :: a19 :: b :: t) pc (.ref x :: st) := by
  subst hq
  intro p e s m args below meth c r0 r H locs ls hC hZ hW hR hlo hls
  exact lv_astore hC.1 hC.2.1 d hls.1 hn rfl (fun ls' h' => k p e s m args below meth c r0 r H locs ls' hC hZ hW hR hlo (gH.set (i := 20) (v := .ref x) hls.2 rfl h'))
theorem V_az20 (q : Nat) {a0 a1 a2 a3 a4 a5 a6 a7 a8 a9 a10 a11 a12 a13 a14 a15 a16 a17 a18 a19 b : Option Value} {t : List (Option Value)}  (d : decode cc pc = .ok (.astore 20, 2)) (hn : 20 < nL) (hq : pc + 2 = q) (k : V l G y cc nL ret R mc ms Z post L M cells slots (a0 :: a1 :: a2 :: a3 :: a4 :: a5 :: a6 :: a7 :: a8 :: a9 :: a10 :: a11 :: a12 :: a13 :: a14 :: a15 :: a16 :: a17 :: a18 :: a19 :: some (.null) :: t) q st) : V l G y cc nL ret R mc ms Z post L M cells slots (a0 :: a1 :: a2 :: a3 :: a4 :: a5 :: a6 :: a7 :: a8 :: a9 :: a10 :: a11 :: a12 :: a13 :: a14 :: a15 :: a16 :: a17 :: a18 :: a19 :: b :: t) pc (.null :: st) := by
  subst hq
  intro p e s m args below meth c r0 r H locs ls hC hZ hW hR hlo hls
  exact lv_astoreN hC.1 hC.2.1 d hls.1 hn rfl (fun ls' h' => k p e s m args below meth c r0 r H locs ls' hC hZ hW hR hlo (gH.set (i := 20) (v := .null) hls.2 rfl h'))
theorem V_ii20 (q : Nat) {a0 a1 a2 a3 a4 a5 a6 a7 a8 a9 a10 a11 a12 a13 a14 a15 a16 a17 a18 a19 : Option Value} {t : List (Option Value)} {x v : Int32} {n : Int} (d : decode cc pc = .ok (.iinc 20 n, 3)) (hn : 20 < nL) (hv : Int32.ofInt n = v) (hq : pc + 3 = q) (k : V l G y cc nL ret R mc ms Z post L M cells slots (a0 :: a1 :: a2 :: a3 :: a4 :: a5 :: a6 :: a7 :: a8 :: a9 :: a10 :: a11 :: a12 :: a13 :: a14 :: a15 :: a16 :: a17 :: a18 :: a19 :: some (.int (x + v)) :: t) q st) : V l G y cc nL ret R mc ms Z post L M cells slots (a0 :: a1 :: a2 :: a3 :: a4 :: a5 :: a6 :: a7 :: a8 :: a9 :: a10 :: a11 :: a12 :: a13 :: a14 :: a15 :: a16 :: a17 :: a18 :: a19 :: some (.int x) :: t) pc st := by
  subst hq
  subst hv
  intro p e s m args below meth c r0 r H locs ls hC hZ hW hR hlo hls
  obtain ⟨k9, hk9⟩ := List.getElem?_of_mem (gP_mem.mpr ⟨.int x, rfl, rfl⟩ : (20, Value.int x) ∈ gP r (a0 :: a1 :: a2 :: a3 :: a4 :: a5 :: a6 :: a7 :: a8 :: a9 :: a10 :: a11 :: a12 :: a13 :: a14 :: a15 :: a16 :: a17 :: a18 :: a19 :: some (.int x) :: t))
  exact lv_iinc hC.1 hC.2.1 d hls.1 hk9 rfl hn rfl (fun ls' h' => k p e s m args below meth c r0 r H locs ls' hC hZ hW hR hlo (gH.set (i := 20) (v := .int (x + Int32.ofInt n)) hls.2 rfl h'))
theorem V_il21 (q : Nat) {a0 a1 a2 a3 a4 a5 a6 a7 a8 a9 a10 a11 a12 a13 a14 a15 a16 a17 a18 a19 a20 : Option Value} {t : List (Option Value)} {x : Int32} (d : decode cc pc = .ok (.iload 21, 2)) (hq : pc + 2 = q) (k : V l G y cc nL ret R mc ms Z post L M cells slots (a0 :: a1 :: a2 :: a3 :: a4 :: a5 :: a6 :: a7 :: a8 :: a9 :: a10 :: a11 :: a12 :: a13 :: a14 :: a15 :: a16 :: a17 :: a18 :: a19 :: a20 :: some (.int x) :: t) q (.int x :: st)) : V l G y cc nL ret R mc ms Z post L M cells slots (a0 :: a1 :: a2 :: a3 :: a4 :: a5 :: a6 :: a7 :: a8 :: a9 :: a10 :: a11 :: a12 :: a13 :: a14 :: a15 :: a16 :: a17 :: a18 :: a19 :: a20 :: some (.int x) :: t) pc (st) := by
  subst hq
  intro p e s m args below meth c r0 r H locs ls hC hZ hW hR hlo hls
  exact lv_iload hC.1 hC.2.1 d (hls.at (i := 21) rfl) (k p e s m args below meth c r0 r H locs ls hC hZ hW hR hlo hls)
theorem V_al21 (q : Nat) {a0 a1 a2 a3 a4 a5 a6 a7 a8 a9 a10 a11 a12 a13 a14 a15 a16 a17 a18 a19 a20 : Option Value} {t : List (Option Value)} {x : Nat} (d : decode cc pc = .ok (.aload 21, 2)) (hq : pc + 2 = q) (k : V l G y cc nL ret R mc ms Z post L M cells slots (a0 :: a1 :: a2 :: a3 :: a4 :: a5 :: a6 :: a7 :: a8 :: a9 :: a10 :: a11 :: a12 :: a13 :: a14 :: a15 :: a16 :: a17 :: a18 :: a19 :: a20 :: some (.ref x) :: t) q (.ref x :: st)) : V l G y cc nL ret R mc ms Z post L M cells slots (a0 :: a1 :: a2 :: a3 :: a4 :: a5 :: a6 :: a7 :: a8 :: a9 :: a10 :: a11 :: a12 :: a13 :: a14 :: a15 :: a16 :: a17 :: a18 :: a19 :: a20 :: some (.ref x) :: t) pc (st) := by
  subst hq
  intro p e s m args below meth c r0 r H locs ls hC hZ hW hR hlo hls
  exact lv_aload hC.1 hC.2.1 d (hls.at (i := 21) rfl) (k p e s m args below meth c r0 r H locs ls hC hZ hW hR hlo hls)
theorem V_an21 (q : Nat) {a0 a1 a2 a3 a4 a5 a6 a7 a8 a9 a10 a11 a12 a13 a14 a15 a16 a17 a18 a19 a20 : Option Value} {t : List (Option Value)}  (d : decode cc pc = .ok (.aload 21, 2)) (hq : pc + 2 = q) (k : V l G y cc nL ret R mc ms Z post L M cells slots (a0 :: a1 :: a2 :: a3 :: a4 :: a5 :: a6 :: a7 :: a8 :: a9 :: a10 :: a11 :: a12 :: a13 :: a14 :: a15 :: a16 :: a17 :: a18 :: a19 :: a20 :: some (.null) :: t) q (.null :: st)) : V l G y cc nL ret R mc ms Z post L M cells slots (a0 :: a1 :: a2 :: a3 :: a4 :: a5 :: a6 :: a7 :: a8 :: a9 :: a10 :: a11 :: a12 :: a13 :: a14 :: a15 :: a16 :: a17 :: a18 :: a19 :: a20 :: some (.null) :: t) pc (st) := by
  subst hq
  intro p e s m args below meth c r0 r H locs ls hC hZ hW hR hlo hls
  exact lv_aloadN hC.1 hC.2.1 d (hls.at (i := 21) rfl) (k p e s m args below meth c r0 r H locs ls hC hZ hW hR hlo hls)
theorem V_is21 (q : Nat) {a0 a1 a2 a3 a4 a5 a6 a7 a8 a9 a10 a11 a12 a13 a14 a15 a16 a17 a18 a19 a20 b : Option Value} {t : List (Option Value)} {x : Int32} (d : decode cc pc = .ok (.istore 21, 2)) (hn : 21 < nL) (hq : pc + 2 = q) (k : V l G y cc nL ret R mc ms Z post L M cells slots (a0 :: a1 :: a2 :: a3 :: a4 :: a5 :: a6 :: a7 :: a8 :: a9 :: a10 :: a11 :: a12 :: a13 :: a14 :: a15 :: a16 :: a17 :: a18 :: a19 :: a20 :: some (.int x) :: t) q st) : V l G y cc nL ret R mc ms Z post L M cells slots (a0 :: a1 :: a2 :: a3 :: a4 :: a5 :: a6 :: a7 :: a8 :: a9 :: a10 :: a11 :: a12 :: a13 :: a14 :: a15 :: a16 :: a17 :: a18 :: a19 :: a20 :: b :: t) pc (.int x :: st) := by
  subst hq
  intro p e s m args below meth c r0 r H locs ls hC hZ hW hR hlo hls
  exact lv_istore hC.1 hC.2.1 d hls.1 hn rfl (fun ls' h' => k p e s m args below meth c r0 r H locs ls' hC hZ hW hR hlo (gH.set (i := 21) (v := .int x) hls.2 rfl h'))
theorem V_as21 (q : Nat) {a0 a1 a2 a3 a4 a5 a6 a7 a8 a9 a10 a11 a12 a13 a14 a15 a16 a17 a18 a19 a20 b : Option Value} {t : List (Option Value)} {x : Nat} (d : decode cc pc = .ok (.astore 21, 2)) (hn : 21 < nL) (hq : pc + 2 = q) (k : V l G y cc nL ret R mc ms Z post L M cells slots (a0 :: a1 :: a2 :: a3 :: a4 :: a5 :: a6 :: a7 :: a8 :: a9 :: a10 :: a11 :: a12 :: a13 :: a14 :: a15 :: a16 :: a17 :: a18 :: a19 :: a20 :: some (.ref x) :: t) q st) : V l G y cc nL ret R mc ms Z post L M cells slots (a0 :: a1 :: a2 :: a3 :: a4 :: a5 :: a6 :: a7 :: a8 :: a9 :: a10 :: a11 :: a12 :: a13 :: a14 :: a15 :: a16 :: a17 :: a18 :: a19 :: a20 :: b :: t) pc (.ref x :: st) := by
  subst hq
  intro p e s m args below meth c r0 r H locs ls hC hZ hW hR hlo hls
  exact lv_astore hC.1 hC.2.1 d hls.1 hn rfl (fun ls' h' => k p e s m args below meth c r0 r H locs ls' hC hZ hW hR hlo (gH.set (i := 21) (v := .ref x) hls.2 rfl h'))
theorem V_az21 (q : Nat) {a0 a1 a2 a3 a4 a5 a6 a7 a8 a9 a10 a11 a12 a13 a14 a15 a16 a17 a18 a19 a20 b : Option Value} {t : List (Option Value)}  (d : decode cc pc = .ok (.astore 21, 2)) (hn : 21 < nL) (hq : pc + 2 = q) (k : V l G y cc nL ret R mc ms Z post L M cells slots (a0 :: a1 :: a2 :: a3 :: a4 :: a5 :: a6 :: a7 :: a8 :: a9 :: a10 :: a11 :: a12 :: a13 :: a14 :: a15 :: a16 :: a17 :: a18 :: a19 :: a20 :: some (.null) :: t) q st) : V l G y cc nL ret R mc ms Z post L M cells slots (a0 :: a1 :: a2 :: a3 :: a4 :: a5 :: a6 :: a7 :: a8 :: a9 :: a10 :: a11 :: a12 :: a13 :: a14 :: a15 :: a16 :: a17 :: a18 :: a19 :: a20 :: b :: t) pc (.null :: st) := by
  subst hq
  intro p e s m args below meth c r0 r H locs ls hC hZ hW hR hlo hls
  exact lv_astoreN hC.1 hC.2.1 d hls.1 hn rfl (fun ls' h' => k p e s m args below meth c r0 r H locs ls' hC hZ hW hR hlo (gH.set (i := 21) (v := .null) hls.2 rfl h'))
theorem V_ii21 (q : Nat) {a0 a1 a2 a3 a4 a5 a6 a7 a8 a9 a10 a11 a12 a13 a14 a15 a16 a17 a18 a19 a20 : Option Value} {t : List (Option Value)} {x v : Int32} {n : Int} (d : decode cc pc = .ok (.iinc 21 n, 3)) (hn : 21 < nL) (hv : Int32.ofInt n = v) (hq : pc + 3 = q) (k : V l G y cc nL ret R mc ms Z post L M cells slots (a0 :: a1 :: a2 :: a3 :: a4 :: a5 :: a6 :: a7 :: a8 :: a9 :: a10 :: a11 :: a12 :: a13 :: a14 :: a15 :: a16 :: a17 :: a18 :: a19 :: a20 :: some (.int (x + v)) :: t) q st) : V l G y cc nL ret R mc ms Z post L M cells slots (a0 :: a1 :: a2 :: a3 :: a4 :: a5 :: a6 :: a7 :: a8 :: a9 :: a10 :: a11 :: a12 :: a13 :: a14 :: a15 :: a16 :: a17 :: a18 :: a19 :: a20 :: some (.int x) :: t) pc st := by
  subst hq
  subst hv
  intro p e s m args below meth c r0 r H locs ls hC hZ hW hR hlo hls
  obtain ⟨k9, hk9⟩ := List.getElem?_of_mem (gP_mem.mpr ⟨.int x, rfl, rfl⟩ : (21, Value.int x) ∈ gP r (a0 :: a1 :: a2 :: a3 :: a4 :: a5 :: a6 :: a7 :: a8 :: a9 :: a10 :: a11 :: a12 :: a13 :: a14 :: a15 :: a16 :: a17 :: a18 :: a19 :: a20 :: some (.int x) :: t))
  exact lv_iinc hC.1 hC.2.1 d hls.1 hk9 rfl hn rfl (fun ls' h' => k p e s m args below meth c r0 r H locs ls' hC hZ hW hR hlo (gH.set (i := 21) (v := .int (x + Int32.ofInt n)) hls.2 rfl h'))
theorem V_il22 (q : Nat) {a0 a1 a2 a3 a4 a5 a6 a7 a8 a9 a10 a11 a12 a13 a14 a15 a16 a17 a18 a19 a20 a21 : Option Value} {t : List (Option Value)} {x : Int32} (d : decode cc pc = .ok (.iload 22, 2)) (hq : pc + 2 = q) (k : V l G y cc nL ret R mc ms Z post L M cells slots (a0 :: a1 :: a2 :: a3 :: a4 :: a5 :: a6 :: a7 :: a8 :: a9 :: a10 :: a11 :: a12 :: a13 :: a14 :: a15 :: a16 :: a17 :: a18 :: a19 :: a20 :: a21 :: some (.int x) :: t) q (.int x :: st)) : V l G y cc nL ret R mc ms Z post L M cells slots (a0 :: a1 :: a2 :: a3 :: a4 :: a5 :: a6 :: a7 :: a8 :: a9 :: a10 :: a11 :: a12 :: a13 :: a14 :: a15 :: a16 :: a17 :: a18 :: a19 :: a20 :: a21 :: some (.int x) :: t) pc (st) := by
  subst hq
  intro p e s m args below meth c r0 r H locs ls hC hZ hW hR hlo hls
  exact lv_iload hC.1 hC.2.1 d (hls.at (i := 22) rfl) (k p e s m args below meth c r0 r H locs ls hC hZ hW hR hlo hls)
theorem V_al22 (q : Nat) {a0 a1 a2 a3 a4 a5 a6 a7 a8 a9 a10 a11 a12 a13 a14 a15 a16 a17 a18 a19 a20 a21 : Option Value} {t : List (Option Value)} {x : Nat} (d : decode cc pc = .ok (.aload 22, 2)) (hq : pc + 2 = q) (k : V l G y cc nL ret R mc ms Z post L M cells slots (a0 :: a1 :: a2 :: a3 :: a4 :: a5 :: a6 :: a7 :: a8 :: a9 :: a10 :: a11 :: a12 :: a13 :: a14 :: a15 :: a16 :: a17 :: a18 :: a19 :: a20 :: a21 :: some (.ref x) :: t) q (.ref x :: st)) : V l G y cc nL ret R mc ms Z post L M cells slots (a0 :: a1 :: a2 :: a3 :: a4 :: a5 :: a6 :: a7 :: a8 :: a9 :: a10 :: a11 :: a12 :: a13 :: a14 :: a15 :: a16 :: a17 :: a18 :: a19 :: a20 :: a21 :: some (.ref x) :: t) pc (st) := by
  subst hq
  intro p e s m args below meth c r0 r H locs ls hC hZ hW hR hlo hls
  exact lv_aload hC.1 hC.2.1 d (hls.at (i := 22) rfl) (k p e s m args below meth c r0 r H locs ls hC hZ hW hR hlo hls)
theorem V_an22 (q : Nat) {a0 a1 a2 a3 a4 a5 a6 a7 a8 a9 a10 a11 a12 a13 a14 a15 a16 a17 a18 a19 a20 a21 : Option Value} {t : List (Option Value)}  (d : decode cc pc = .ok (.aload 22, 2)) (hq : pc + 2 = q) (k : V l G y cc nL ret R mc ms Z post L M cells slots (a0 :: a1 :: a2 :: a3 :: a4 :: a5 :: a6 :: a7 :: a8 :: a9 :: a10 :: a11 :: a12 :: a13 :: a14 :: a15 :: a16 :: a17 :: a18 :: a19 :: a20 :: a21 :: some (.null) :: t) q (.null :: st)) : V l G y cc nL ret R mc ms Z post L M cells slots (a0 :: a1 :: a2 :: a3 :: a4 :: a5 :: a6 :: a7 :: a8 :: a9 :: a10 :: a11 :: a12 :: a13 :: a14 :: a15 :: a16 :: a17 :: a18 :: a19 :: a20 :: a21 :: some (.null) :: t) pc (st) := by
  subst hq
  intro p e s m args below meth c r0 r H locs ls hC hZ hW hR hlo hls
  exact lv_aloadN hC.1 hC.2.1 d (hls.at (i := 22) rfl) (k p e s m args below meth c r0 r H locs ls hC hZ hW hR hlo hls)
theorem V_is22 (q : Nat) {a0 a1 a2 a3 a4 a5 a6 a7 a8 a9 a10 a11 a12 a13 a14 a15 a16 a17 a18 a19 a20 a21 b : Option Value} {t : List (Option Value)} {x : Int32} (d : decode cc pc = .ok (.istore 22, 2)) (hn : 22 < nL) (hq : pc + 2 = q) (k : V l G y cc nL ret R mc ms Z post L M cells slots (a0 :: a1 :: a2 :: a3 :: a4 :: a5 :: a6 :: a7 :: a8 :: a9 :: a10 :: a11 :: a12 :: a13 :: a14 :: a15 :: a16 :: a17 :: a18 :: a19 :: a20 :: a21 :: some (.int x) :: t) q st) : V l G y cc nL ret R mc ms Z post L M cells slots (a0 :: a1 :: a2 :: a3 :: a4 :: a5 :: a6 :: a7 :: a8 :: a9 :: a10 :: a11 :: a12 :: a13 :: a14 :: a15 :: a16 :: a17 :: a18 :: a19 :: a20 :: a21 :: b :: t) pc (.int x :: st) := by
  subst hq
  intro p e s m args below meth c r0 r H locs ls hC hZ hW hR hlo hls
  exact lv_istore hC.1 hC.2.1 d hls.1 hn rfl (fun ls' h' => k p e s m args below meth c r0 r H locs ls' hC hZ hW hR hlo (gH.set (i := 22) (v := .int x) hls.2 rfl h'))
theorem V_as22 (q : Nat) {a0 a1 a2 a3 a4 a5 a6 a7 a8 a9 a10 a11 a12 a13 a14 a15 a16 a17 a18 a19 a20 a21 b : Option Value} {t : List (Option Value)} {x : Nat} (d : decode cc pc = .ok (.astore 22, 2)) (hn : 22 < nL) (hq : pc + 2 = q) (k : V l G y cc nL ret R mc ms Z post L M cells slots (a0 :: a1 :: a2 :: a3 :: a4 :: a5 :: a6 :: a7 :: a8 :: a9 :: a10 :: a11 :: a12 :: a13 :: a14 :: a15 :: a16 :: a17 :: a18 :: a19 :: a20 :: a21 :: some (.ref x) :: t) q st) : V l G y cc nL ret R mc ms Z post L M cells slots (a0 :: a1 :: a2 :: a3 :: a4 :: a5 :: a6 :: a7 :: a8 :: a9 :: a10 :: a11 :: a12 :: a13 :: a14 :: a15 :: a16 :: a17 :: a18 :: a19 :: a20 :: a21 :: b :: t) pc (.ref x :: st) := by
  subst hq
  intro p e s m args below meth c r0 r H locs ls hC hZ hW hR hlo hls
  exact lv_astore hC.1 hC.2.1 d hls.1 hn rfl (fun ls' h' => k p e s m args below meth c r0 r H locs ls' hC hZ hW hR hlo (gH.set (i := 22) (v := .ref x) hls.2 rfl h'))
theorem V_az22 (q : Nat) {a0 a1 a2 a3 a4 a5 a6 a7 a8 a9 a10 a11 a12 a13 a14 a15 a16 a17 a18 a19 a20 a21 b : Option Value} {t : List (Option Value)}  (d : decode cc pc = .ok (.astore 22, 2)) (hn : 22 < nL) (hq : pc + 2 = q) (k : V l G y cc nL ret R mc ms Z post L M cells slots (a0 :: a1 :: a2 :: a3 :: a4 :: a5 :: a6 :: a7 :: a8 :: a9 :: a10 :: a11 :: a12 :: a13 :: a14 :: a15 :: a16 :: a17 :: a18 :: a19 :: a20 :: a21 :: some (.null) :: t) q st) : V l G y cc nL ret R mc ms Z post L M cells slots (a0 :: a1 :: a2 :: a3 :: a4 :: a5 :: a6 :: a7 :: a8 :: a9 :: a10 :: a11 :: a12 :: a13 :: a14 :: a15 :: a16 :: a17 :: a18 :: a19 :: a20 :: a21 :: b :: t) pc (.null :: st) := by
  subst hq
  intro p e s m args below meth c r0 r H locs ls hC hZ hW hR hlo hls
  exact lv_astoreN hC.1 hC.2.1 d hls.1 hn rfl (fun ls' h' => k p e s m args below meth c r0 r H locs ls' hC hZ hW hR hlo (gH.set (i := 22) (v := .null) hls.2 rfl h'))
theorem V_ii22 (q : Nat) {a0 a1 a2 a3 a4 a5 a6 a7 a8 a9 a10 a11 a12 a13 a14 a15 a16 a17 a18 a19 a20 a21 : Option Value} {t : List (Option Value)} {x v : Int32} {n : Int} (d : decode cc pc = .ok (.iinc 22 n, 3)) (hn : 22 < nL) (hv : Int32.ofInt n = v) (hq : pc + 3 = q) (k : V l G y cc nL ret R mc ms Z post L M cells slots (a0 :: a1 :: a2 :: a3 :: a4 :: a5 :: a6 :: a7 :: a8 :: a9 :: a10 :: a11 :: a12 :: a13 :: a14 :: a15 :: a16 :: a17 :: a18 :: a19 :: a20 :: a21 :: some (.int (x + v)) :: t) q st) : V l G y cc nL ret R mc ms Z post L M cells slots (a0 :: a1 :: a2 :: a3 :: a4 :: a5 :: a6 :: a7 :: a8 :: a9 :: a10 :: a11 :: a12 :: a13 :: a14 :: a15 :: a16 :: a17 :: a18 :: a19 :: a20 :: a21 :: some (.int x) :: t) pc st := by
  subst hq
  subst hv
  intro p e s m args below meth c r0 r H locs ls hC hZ hW hR hlo hls
  obtain ⟨k9, hk9⟩ := List.getElem?_of_mem (gP_mem.mpr ⟨.int x, rfl, rfl⟩ : (22, Value.int x) ∈ gP r (a0 :: a1 :: a2 :: a3 :: a4 :: a5 :: a6 :: a7 :: a8 :: a9 :: a10 :: a11 :: a12 :: a13 :: a14 :: a15 :: a16 :: a17 :: a18 :: a19 :: a20 :: a21 :: some (.int x) :: t))
  exact lv_iinc hC.1 hC.2.1 d hls.1 hk9 rfl hn rfl (fun ls' h' => k p e s m args below meth c r0 r H locs ls' hC hZ hW hR hlo (gH.set (i := 22) (v := .int (x + Int32.ofInt n)) hls.2 rfl h'))
theorem V_il23 (q : Nat) {a0 a1 a2 a3 a4 a5 a6 a7 a8 a9 a10 a11 a12 a13 a14 a15 a16 a17 a18 a19 a20 a21 a22 : Option Value} {t : List (Option Value)} {x : Int32} (d : decode cc pc = .ok (.iload 23, 2)) (hq : pc + 2 = q) (k : V l G y cc nL ret R mc ms Z post L M cells slots (a0 :: a1 :: a2 :: a3 :: a4 :: a5 :: a6 :: a7 :: a8 :: a9 :: a10 :: a11 :: a12 :: a13 :: a14 :: a15 :: a16 :: a17 :: a18 :: a19 :: a20 :: a21 :: a22 :: some (.int x) :: t) q (.int x :: st)) : V l G y cc nL ret R mc ms Z post L M cells slots (a0 :: a1 :: a2 :: a3 :: a4 :: a5 :: a6 :: a7 :: a8 :: a9 :: a10 :: a11 :: a12 :: a13 :: a14 :: a15 :: a16 :: a17 :: a18 :: a19 :: a20 :: a21 :: a22 :: some (.int x) :: t) pc (st) := by
  subst hq
  intro p e s m args below meth c r0 r H locs ls hC hZ hW hR hlo hls
  exact lv_iload hC.1 hC.2.1 d (hls.at (i := 23) rfl) (k p e s m args below meth c r0 r H locs ls hC hZ hW hR hlo hls)
theorem V_al23 (q : Nat) {a0 a1 a2 a3 a4 a5 a6 a7 a8 a9 a10 a11 a12 a13 a14 a15 a16 a17 a18 a19 a20 a21 a22 : Option Value} {t : List (Option Value)} {x : Nat} (d : decode cc pc = .ok (.aload 23, 2)) (hq : pc + 2 = q) (k : V l G y cc nL ret R mc ms Z post L M cells slots (a0 :: a1 :: a2 :: a3 :: a4 :: a5 :: a6 :: a7 :: a8 :: a9 :: a10 :: a11 :: a12 :: a13 :: a14 :: a15 :: a16 :: a17 :: a18 :: a19 :: a20 :: a21 :: a22 :: some (.ref x) :: t) q (.ref x :: st)) : V l G y cc nL ret R mc ms Z post L M cells slots (a0 :: a1 :: a2 :: a3 :: a4 :: a5 :: a6 :: a7 :: a8 :: a9 :: a10 :: a11 :: a12 :: a13 :: a14 :: a15 :: a16 :: a17 :: a18 :: a19 :: a20 :: a21 :: a22 :: some (.ref x) :: t) pc (st) := by
  subst hq
  intro p e s m args below meth c r0 r H locs ls hC hZ hW hR hlo hls
  exact lv_aload hC.1 hC.2.1 d (hls.at (i := 23) rfl) (k p e s m args below meth c r0 r H locs ls hC hZ hW hR hlo hls)
theorem V_an23 (q : Nat) {a0 a1 a2 a3 a4 a5 a6 a7 a8 a9 a10 a11 a12 a13 a14 a15 a16 a17 a18 a19 a20 a21 a22 : Option Value} {t : List (Option Value)}  (d : decode cc pc = .ok (.aload 23, 2)) (hq : pc + 2 = q) (k : V l G y cc nL ret R mc ms Z post L M cells slots (a0 :: a1 :: a2 :: a3 :: a4 :: a5 :: a6 :: a7 :: a8 :: a9 :: a10 :: a11 :: a12 :: a13 :: a14 :: a15 :: a16 :: a17 :: a18 :: a19 :: a20 :: a21 :: a22 :: some (.null) :: t) q (.null :: st)) : V l G y cc nL ret R mc ms Z post L M cells slots (a0 :: a1 :: a2 :: a3 :: a4 :: a5 :: a6 :: a7 :: a8 :: a9 :: a10 :: a11 :: a12 :: a13 :: a14 :: a15 :: a16 :: a17 :: a18 :: a19 :: a20 :: a21 :: a22 :: some (.null) :: t) pc (st) := by
  subst hq
  intro p e s m args below meth c r0 r H locs ls hC hZ hW hR hlo hls
  exact lv_aloadN hC.1 hC.2.1 d (hls.at (i := 23) rfl) (k p e s m args below meth c r0 r H locs ls hC hZ hW hR hlo hls)
theorem V_is23 (q : Nat) {a0 a1 a2 a3 a4 a5 a6 a7 a8 a9 a10 a11 a12 a13 a14 a15 a16 a17 a18 a19 a20 a21 a22 b : Option Value} {t : List (Option Value)} {x : Int32} (d : decode cc pc = .ok (.istore 23, 2)) (hn : 23 < nL) (hq : pc + 2 = q) (k : V l G y cc nL ret R mc ms Z post L M cells slots (a0 :: a1 :: a2 :: a3 :: a4 :: a5 :: a6 :: a7 :: a8 :: a9 :: a10 :: a11 :: a12 :: a13 :: a14 :: a15 :: a16 :: a17 :: a18 :: a19 :: a20 :: a21 :: a22 :: some (.int x) :: t) q st) : V l G y cc nL ret R mc ms Z post L M cells slots (a0 :: a1 :: a2 :: a3 :: a4 :: a5 :: a6 :: a7 :: a8 :: a9 :: a10 :: a11 :: a12 :: a13 :: a14 :: a15 :: a16 :: a17 :: a18 :: a19 :: a20 :: a21 :: a22 :: b :: t) pc (.int x :: st) := by
  subst hq
  intro p e s m args below meth c r0 r H locs ls hC hZ hW hR hlo hls
  exact lv_istore hC.1 hC.2.1 d hls.1 hn rfl (fun ls' h' => k p e s m args below meth c r0 r H locs ls' hC hZ hW hR hlo (gH.set (i := 23) (v := .int x) hls.2 rfl h'))
theorem V_as23 (q : Nat) {a0 a1 a2 a3 a4 a5 a6 a7 a8 a9 a10 a11 a12 a13 a14 a15 a16 a17 a18 a19 a20 a21 a22 b : Option Value} {t : List (Option Value)} {x : Nat} (d : decode cc pc = .ok (.astore 23, 2)) (hn : 23 < nL) (hq : pc + 2 = q) (k : V l G y cc nL ret R mc ms Z post L M cells slots (a0 :: a1 :: a2 :: a3 :: a4 :: a5 :: a6 :: a7 :: a8 :: a9 :: a10 :: a11 :: a12 :: a13 :: a14 :: a15 :: a16 :: a17 :: a18 :: a19 :: a20 :: a21 :: a22 :: some (.ref x) :: t) q st) : V l G y cc nL ret R mc ms Z post L M cells slots (a0 :: a1 :: a2 :: a3 :: a4 :: a5 :: a6 :: a7 :: a8 :: a9 :: a10 :: a11 :: a12 :: a13 :: a14 :: a15 :: a16 :: a17 :: a18 :: a19 :: a20 :: a21 :: a22 :: b :: t) pc (.ref x :: st) := by
  subst hq
  intro p e s m args below meth c r0 r H locs ls hC hZ hW hR hlo hls
  exact lv_astore hC.1 hC.2.1 d hls.1 hn rfl (fun ls' h' => k p e s m args below meth c r0 r H locs ls' hC hZ hW hR hlo (gH.set (i := 23) (v := .ref x) hls.2 rfl h'))
theorem V_az23 (q : Nat) {a0 a1 a2 a3 a4 a5 a6 a7 a8 a9 a10 a11 a12 a13 a14 a15 a16 a17 a18 a19 a20 a21 a22 b : Option Value} {t : List (Option Value)}  (d : decode cc pc = .ok (.astore 23, 2)) (hn : 23 < nL) (hq : pc + 2 = q) (k : V l G y cc nL ret R mc ms Z post L M cells slots (a0 :: a1 :: a2 :: a3 :: a4 :: a5 :: a6 :: a7 :: a8 :: a9 :: a10 :: a11 :: a12 :: a13 :: a14 :: a15 :: a16 :: a17 :: a18 :: a19 :: a20 :: a21 :: a22 :: some (.null) :: t) q st) : V l G y cc nL ret R mc ms Z post L M cells slots (a0 :: a1 :: a2 :: a3 :: a4 :: a5 :: a6 :: a7 :: a8 :: a9 :: a10 :: a11 :: a12 :: a13 :: a14 :: a15 :: a16 :: a17 :: a18 :: a19 :: a20 :: a21 :: a22 :: b :: t) pc (.null :: st) := by
  subst hq
  intro p e s m args below meth c r0 r H locs ls hC hZ hW hR hlo hls
  exact lv_astoreN hC.1 hC.2.1 d hls.1 hn rfl (fun ls' h' => k p e s m args below meth c r0 r H locs ls' hC hZ hW hR hlo (gH.set (i := 23) (v := .null) hls.2 rfl h'))
theorem V_ii23 (q : Nat) {a0 a1 a2 a3 a4 a5 a6 a7 a8 a9 a10 a11 a12 a13 a14 a15 a16 a17 a18 a19 a20 a21 a22 : Option Value} {t : List (Option Value)} {x v : Int32} {n : Int} (d : decode cc pc = .ok (.iinc 23 n, 3)) (hn : 23 < nL) (hv : Int32.ofInt n = v) (hq : pc + 3 = q) (k : V l G y cc nL ret R mc ms Z post L M cells slots (a0 :: a1 :: a2 :: a3 :: a4 :: a5 :: a6 :: a7 :: a8 :: a9 :: a10 :: a11 :: a12 :: a13 :: a14 :: a15 :: a16 :: a17 :: a18 :: a19 :: a20 :: a21 :: a22 :: some (.int (x + v)) :: t) q st) : V l G y cc nL ret R mc ms Z post L M cells slots (a0 :: a1 :: a2 :: a3 :: a4 :: a5 :: a6 :: a7 :: a8 :: a9 :: a10 :: a11 :: a12 :: a13 :: a14 :: a15 :: a16 :: a17 :: a18 :: a19 :: a20 :: a21 :: a22 :: some (.int x) :: t) pc st := by
  subst hq
  subst hv
  intro p e s m args below meth c r0 r H locs ls hC hZ hW hR hlo hls
  obtain ⟨k9, hk9⟩ := List.getElem?_of_mem (gP_mem.mpr ⟨.int x, rfl, rfl⟩ : (23, Value.int x) ∈ gP r (a0 :: a1 :: a2 :: a3 :: a4 :: a5 :: a6 :: a7 :: a8 :: a9 :: a10 :: a11 :: a12 :: a13 :: a14 :: a15 :: a16 :: a17 :: a18 :: a19 :: a20 :: a21 :: a22 :: some (.int x) :: t))
  exact lv_iinc hC.1 hC.2.1 d hls.1 hk9 rfl hn rfl (fun ls' h' => k p e s m args below meth c r0 r H locs ls' hC hZ hW hR hlo (gH.set (i := 23) (v := .int (x + Int32.ofInt n)) hls.2 rfl h'))
theorem V_il24 (q : Nat) {a0 a1 a2 a3 a4 a5 a6 a7 a8 a9 a10 a11 a12 a13 a14 a15 a16 a17 a18 a19 a20 a21 a22 a23 : Option Value} {t : List (Option Value)} {x : Int32} (d : decode cc pc = .ok (.iload 24, 2)) (hq : pc + 2 = q) (k : V l G y cc nL ret R mc ms Z post L M cells slots (a0 :: a1 :: a2 :: a3 :: a4 :: a5 :: a6 :: a7 :: a8 :: a9 :: a10 :: a11 :: a12 :: a13 :: a14 :: a15 :: a16 :: a17 :: a18 :: a19 :: a20 :: a21 :: a22 :: a23 :: some (.int x) :: t) q (.int x :: st)) : V l G y cc nL ret R mc ms Z post L M cells slots (a0 :: a1 :: a2 :: a3 :: a4 :: a5 :: a6 :: a7 :: a8 :: a9 :: a10 :: a11 :: a12 :: a13 :: a14 :: a15 :: a16 :: a17 :: a18 :: a19 :: a20 :: a21 :: a22 :: a23 :: some (.int x) :: t) pc (st) := by
  subst hq
  intro p e s m args below meth c r0 r H locs ls hC hZ hW hR hlo hls
  exact lv_iload hC.1 hC.2.1 d (hls.at (i := 24) rfl) (k p e s m args below meth c r0 r H locs ls hC hZ hW hR hlo hls)
theorem V_al24 (q : Nat) {a0 a1 a2 a3 a4 a5 a6 a7 a8 a9 a10 a11 a12 a13 a14 a15 a16 a17 a18 a19 a20 a21 a22 a23 : Option Value} {t : List (Option Value)} {x : Nat} (d : decode cc pc = .ok (.aload 24, 2)) (hq : pc + 2 = q) (k : V l G y cc nL ret R mc ms Z post L M cells slots (a0 :: a1 :: a2 :: a3 :: a4 :: a5 :: a6 :: a7 :: a8 :: a9 :: a10 :: a11 :: a12 :: a13 :: a14 :: a15 :: a16 :: a17 :: a18 :: a19 :: a20 :: a21 :: a22 :: a23 :: some (.ref x) :: t) q (.ref x :: st)) : V l G y cc nL ret R mc ms Z post L M cells slots (a0 :: a1 :: a2 :: a3 :: a4 :: a5 :: a6 :: a7 :: a8 :: a9 :: a10 :: a11 :: a12 :: a13 :: a14 :: a15 :: a16 :: a17 :: a18 :: a19 :: a20 :: a21 :: a22 :: a23 :: some (.ref x) :: t) pc (st) := by
  subst hq
  intro p e s m args below meth c r0 r H locs ls hC hZ hW hR hlo hls
  exact lv_aload hC.1 hC.2.1 d (hls.at (i := 24) rfl) (k p e s m args below meth c r0 r H locs ls hC hZ hW hR hlo hls)
theorem V_an24 (q : Nat) {a0 a1 a2 a3 a4 a5 a6 a7 a8 a9 a10 a11 a12 a13 a14 a15 a16 a17 a18 a19 a20 a21 a22 a23 : Option Value} {t : List (Option Value)}  (d : decode cc pc = .ok (.aload 24, 2)) (hq : pc + 2 = q) (k : V l G y cc nL ret R mc ms Z post L M cells slots (a0 :: a1 :: a2 :: a3 :: a4 :: a5 :: a6 :: a7 :: a8 :: a9 :: a10 :: a11 :: a12 :: a13 :: a14 :: a15 :: a16 :: a17 :: a18 :: a19 :: a20 :: a21 :: a22 :: a23 :: some (.null) :: t) q (.null :: st)) : V l G y cc nL ret R mc ms Z post L M cells slots (a0 :: a1 :: a2 :: a3 :: a4 :: a5 :: a6 :: a7 :: a8 :: a9 :: a10 :: a11 :: a12 :: a13 :: a14 :: a15 :: a16 :: a17 :: a18 :: a19 :: a20 :: a21 :: a22 :: a23 :: some (.null) :: t) pc (st) := by
  subst hq
  intro p e s m args below meth c r0 r H locs ls hC hZ hW hR hlo hls
  exact lv_aloadN hC.1 hC.2.1 d (hls.at (i := 24) rfl) (k p e s m args below meth c r0 r H locs ls hC hZ hW hR hlo hls)
theorem V_is24 (q : Nat) {a0 a1 a2 a3 a4 a5 a6 a7 a8 a9 a10 a11 a12 a13 a14 a15 a16 a17 a18 a19 a20 a21 a22 a23 b : Option Value} {t : List (Option Value)} {x : Int32} (d : decode cc pc = .ok (.istore 24, 2)) (hn : 24 < nL) (hq : pc + 2 = q) (k : V l G y cc nL ret R mc ms Z post L M cells slots (a0 :: a1 :: a2 :: a3 :: a4 :: a5 :: a6 :: a7 :: a8 :: a9 :: a10 :: a11 :: a12 :: a13 :: a14 :: a15 :: a16 :: a17 :: a18 :: a19 :: a20 :: a21 :: a22 :: a23 :: some (.int x) :: t) q st) : V l G y cc nL ret R mc ms Z post L M cells slots (a0 :: a1 :: a2 :: a3 :: a4 :: a5 :: a6 :: a7 :: a8 :: a9 :: a10 :: a11 :: a12 :: a13 :: a14 :: a15 :: a16 :: a17 :: a18 :: a19 :: a20 :: a21 :: a22 :: a23 :: b :: t) pc (.int x :: st) := by
  subst hq
  intro p e s m args below meth c r0 r H locs ls hC hZ hW hR hlo hls
  exact lv_istore hC.1 hC.2.1 d hls.1 hn rfl (fun ls' h' => k p e s m args below meth c r0 r H locs ls' hC hZ hW hR hlo (gH.set (i := 24) (v := .int x) hls.2 rfl h'))
theorem V_as24 (q : Nat) {a0 a1 a2 a3 a4 a5 a6 a7 a8 a9 a10 a11 a12 a13 a14 a15 a16 a17 a18 a19 a20 a21 a22 a23 b : Option Value} {t : List (Option Value)} {x : Nat} (d : decode cc pc = .ok (.astore 24, 2)) (hn : 24 < nL) (hq : pc + 2 = q) (k : V l G y cc nL ret R mc ms Z post L M cells slots (a0 :: a1 :: a2 :: a3 :: a4 :: a5 :: a6 :: a7 :: a8 :: a9 :: a10 :: a11 :: a12 :: a13 :: a14 :: a15 :: a16 :: a17 :: a18 :: a19 :: a20 :: a21 :: a22 :: a23 :: some (.ref x) :: t) q st) : V l G y cc nL ret R mc ms Z post L M cells slots (a0 :: a1 :: a2 :: a3 :: a4 :: a5 :: a6 :: a7 :: a8 :: a9 :: a10 :: a11 :: a12 :: a13 :: a14 :: a15 :: a16 :: a17 :: a18 :: a19 :: a20 :: a21 :: a22 :: a23 :: b :: t) pc (.ref x :: st) := by
  subst hq
  intro p e s m args below meth c r0 r H locs ls hC hZ hW hR hlo hls
  exact lv_astore hC.1 hC.2.1 d hls.1 hn rfl (fun ls' h' => k p e s m args below meth c r0 r H locs ls' hC hZ hW hR hlo (gH.set (i := 24) (v := .ref x) hls.2 rfl h'))
theorem V_az24 (q : Nat) {a0 a1 a2 a3 a4 a5 a6 a7 a8 a9 a10 a11 a12 a13 a14 a15 a16 a17 a18 a19 a20 a21 a22 a23 b : Option Value} {t : List (Option Value)}  (d : decode cc pc = .ok (.astore 24, 2)) (hn : 24 < nL) (hq : pc + 2 = q) (k : V l G y cc nL ret R mc ms Z post L M cells slots (a0 :: a1 :: a2 :: a3 :: a4 :: a5 :: a6 :: a7 :: a8 :: a9 :: a10 :: a11 :: a12 :: a13 :: a14 :: a15 :: a16 :: a17 :: a18 :: a19 :: a20 :: a21 :: a22 :: a23 :: some (.null) :: t) q st) : V l G y cc nL ret R mc ms Z post L M cells slots (a0 :: a1 :: a2 :: a3 :: a4 :: a5 :: a6 :: a7 :: a8 :: a9 :: a10 :: a11 :: a12 :: a13 :: a14 :: a15 :: a16 :: a17 :: a18 :: a19 :: a20 :: a21 :: a22 :: a23 :: b :: t) pc (.null :: st) := by
  subst hq
  intro p e s m args below meth c r0 r H locs ls hC hZ hW hR hlo hls
  exact lv_astoreN hC.1 hC.2.1 d hls.1 hn rfl (fun ls' h' => k p e s m args below meth c r0 r H locs ls' hC hZ hW hR hlo (gH.set (i := 24) (v := .null) hls.2 rfl h'))
theorem V_ii24 (q : Nat) {a0 a1 a2 a3 a4 a5 a6 a7 a8 a9 a10 a11 a12 a13 a14 a15 a16 a17 a18 a19 a20 a21 a22 a23 : Option Value} {t : List (Option Value)} {x v : Int32} {n : Int} (d : decode cc pc = .ok (.iinc 24 n, 3)) (hn : 24 < nL) (hv : Int32.ofInt n = v) (hq : pc + 3 = q) (k : V l G y cc nL ret R mc ms Z post L M cells slots (a0 :: a1 :: a2 :: a3 :: a4 :: a5 :: a6 :: a7 :: a8 :: a9 :: a10 :: a11 :: a12 :: a13 :: a14 :: a15 :: a16 :: a17 :: a18 :: a19 :: a20 :: a21 :: a22 :: a23 :: some (.int (x + v)) :: t) q st) : V l G y cc nL ret R mc ms Z post L M cells slots (a0 :: a1 :: a2 :: a3 :: a4 :: a5 :: a6 :: a7 :: a8 :: a9 :: a10 :: a11 :: a12 :: a13 :: a14 :: a15 :: a16 :: a17 :: a18 :: a19 :: a20 :: a21 :: a22 :: a23 :: some (.int x) :: t) pc st := by
  subst hq
  subst hv
  intro p e s m args below meth c r0 r H locs ls hC hZ hW hR hlo hls
  obtain ⟨k9, hk9⟩ := List.getElem?_of_mem (gP_mem.mpr ⟨.int x, rfl, rfl⟩ : (24, Value.int x) ∈ gP r (a0 :: a1 :: a2 :: a3 :: a4 :: a5 :: a6 :: a7 :: a8 :: a9 :: a10 :: a11 :: a12 :: a13 :: a14 :: a15 :: a16 :: a17 :: a18 :: a19 :: a20 :: a21 :: a22 :: a23 :: some (.int x) :: t))
  exact lv_iinc hC.1 hC.2.1 d hls.1 hk9 rfl hn rfl (fun ls' h' => k p e s m args below meth c r0 r H locs ls' hC hZ hW hR hlo (gH.set (i := 24) (v := .int (x + Int32.ofInt n)) hls.2 rfl h'))
theorem V_il25 (q : Nat) {a0 a1 a2 a3 a4 a5 a6 a7 a8 a9 a10 a11 a12 a13 a14 a15 a16 a17 a18 a19 a20 a21 a22 a23 a24 : Option Value} {t : List (Option Value)} {x : Int32} (d : decode cc pc = .ok (.iload 25, 2)) (hq : pc + 2 = q) (k : V l G y cc nL ret R mc ms Z post L M cells slots (a0 :: a1 :: a2 :: a3 :: a4 :: a5 :: a6 :: a7 :: a8 :: a9 :: a10 :: a11 :: a12 :: a13 :: a14 :: a15 :: a16 :: a17 :: a18 :: a19 :: a20 :: a21 :: a22 :: a23 :: a24 :: some (.int x) :: t) q (.int x :: st)) : V l G y cc nL ret R mc ms Z post L M cells slots (a0 :: a1 :: a2 :: a3 :: a4 :: a5 :: a6 :: a7 :: a8 :: a9 :: a10 :: a11 :: a12 :: a13 :: a14 :: a15 :: a16 :: a17 :: a18 :: a19 :: a20 :: a21 :: a22 :: a23 :: a24 :: some (.int x) :: t) pc (st) := by
  subst hq
  intro p e s m args below meth c r0 r H locs ls hC hZ hW hR hlo hls
  exact lv_iload hC.1 hC.2.1 d (hls.at (i := 25) rfl) (k p e s m args below meth c r0 r H locs ls hC hZ hW hR hlo hls)
theorem V_al25 (q : Nat) {a0 a1 a2 a3 a4 a5 a6 a7 a8 a9 a10 a11 a12 a13 a14 a15 a16 a17 a18 a19 a20 a21 a22 a23 a24 : Option Value} {t : List (Option Value)} {x : Nat} (d : decode cc pc = .ok (.aload 25, 2)) (hq : pc + 2 = q) (k : V l G y cc nL ret R mc ms Z post L M cells slots (a0 :: a1 :: a2 :: a3 :: a4 :: a5 :: a6 :: a7 :: a8 :: a9 :: a10 :: a11 :: a12 :: a13 :: a14 :: a15 :: a16 :: a17 :: a18 :: a19 :: a20 :: a21 :: a22 :: a23 :: a24 :: some (.ref x) :: t) q (.ref x :: st)) : V l G y cc nL ret R mc ms Z post L M cells slots (a0 :: a1 :: a2 :: a3 :: a4 :: a5 :: a6 :: a7 :: a8 :: a9 :: a10 :: a11 :: a12 :: a13 :: a14 :: a15 :: a16 :: a17 :: a18 :: a19 :: a20 :: a21 :: a22 :: a23 :: a24 :: some (.ref x) :: t) pc (st) := by
  subst hq
  intro p e s m args below meth c r0 r H locs ls hC hZ hW hR hlo hls
  exact lv_aload hC.1 hC.2.1 d (hls.at (i := 25) rfl) (k p e s m args below meth c r0 r H locs ls hC hZ hW hR hlo hls)
theorem V_an25 (q : Nat) {a0 a1 a2 a3 a4 a5 a6 a7 a8 a9 a10 a11 a12 a13 a14 a15 a16 a17 a18 a19 a20 a21 a22 a23 a24 : Option Value} {t : List (Option Value)}  (d : decode cc pc = .ok (.aload 25, 2)) (hq : pc + 2 = q) (k : V l G y cc nL ret R mc ms Z post L M cells slots (a0 :: a1 :: a2 :: a3 :: a4 :: a5 :: a6 :: a7 :: a8 :: a9 :: a10 :: a11 :: a12 :: a13 :: a14 :: a15 :: a16 :: a17 :: a18 :: a19 :: a20 :: a21 :: a22 :: a23 :: a24 :: some (.null) :: t) q (.null :: st)) : V l G y cc nL ret R mc ms Z post L M cells slots (a0 :: a1 :: a2 :: a3 :: a4 :: a5 :: a6 :: a7 :: a8 :: a9 :: a10 :: a11 :: a12 :: a13 :: a14 :: a15 :: a16 :: a17 :: a18 :: a19 :: a20 :: a21 :: a22 :: a23 :: a24 :: some (.null) :: t) pc (st) := by
  subst hq
  intro p e s m args below meth c r0 r H locs ls hC hZ hW hR hlo hls
  exact lv_aloadN hC.1 hC.2.1 d (hls.at (i := 25) rfl) (k p e s m args below meth c r0 r H locs ls hC hZ hW hR hlo hls)
theorem V_is25 (q : Nat) {a0 a1 a2 a3 a4 a5 a6 a7 a8 a9 a10 a11 a12 a13 a14 a15 a16 a17 a18 a19 a20 a21 a22 a23 a24 b : Option Value} {t : List (Option Value)} {x : Int32} (d : decode cc pc = .ok (.istore 25, 2)) (hn : 25 < nL) (hq : pc + 2 = q) (k : V l G y cc nL ret R mc ms Z post L M cells slots (a0 :: a1 :: a2 :: a3 :: a4 :: a5 :: a6 :: a7 :: a8 :: a9 :: a10 :: a11 :: a12 :: a13 :: a14 :: a15 :: a16 :: a17 :: a18 :: a19 :: a20 :: a21 :: a22 :: a23 :: a24 :: some (.int x) :: t) q st) : V l G y cc nL ret R mc ms Z post L M cells slots (a0 :: a1 :: a2 :: a3 :: a4 :: a5 :: a6 :: a7 :: a8 :: a9 :: a10 :: a11 :: a12 :: a13 :: a14 :: a15 :: a16 :: a17 :: a18 :: a19 :: a20 :: a21 :: a22 :: a23 :: a24 :: b :: t) pc (.int x :: st) := by
  subst hq
  intro p e s m args below meth c r0 r H locs ls hC hZ hW hR hlo hls
  exact lv_istore hC.1 hC.2.1 d hls.1 hn rfl (fun ls' h' => k p e s m args below meth c r0 r H locs ls' hC hZ hW hR hlo (gH.set (i := 25) (v := .int x) hls.2 rfl h'))
theorem V_as25 (q : Nat) {a0 a1 a2 a3 a4 a5 a6 a7 a8 a9 a10 a11 a12 a13 a14 a15 a16 a17 a18 a19 a20 a21 a22 a23 a24 b : Option Value} {t : List (Option Value)} {x : Nat} (d : decode cc pc = .ok (.astore 25, 2)) (hn : 25 < nL) (hq : pc + 2 = q) (k : V l G y cc nL ret R mc ms Z post L M cells slots (a0 :: a1 :: a2 :: a3 :: a4 :: a5 :: a6 :: a7 :: a8 :: a9 :: a10 :: a11 :: a12 :: a13 :: a14 :: a15 :: a16 :: a17 :: a18 :: a19 :: a20 :: a21 :: a22 :: a23 :: a24 :: some (.ref x) :: t) q st) : V l G y cc nL ret R mc ms Z post L M cells slots (a0 :: a1 :: a2 :: a3 :: a4 :: a5 :: a6 :: a7 :: a8 :: a9 :: a10 :: a11 :: a12 :: a13 :: a14 :: a15 :: a16 :: a17 :: a18 :: a19 :: a20 :: a21 :: a22 :: a23 :: a24 :: b :: t) pc (.ref x :: st) := by
  subst hq
  intro p e s m args below meth c r0 r H locs ls hC hZ hW hR hlo hls
  exact lv_astore hC.1 hC.2.1 d hls.1 hn rfl (fun ls' h' => k p e s m args below meth c r0 r H locs ls' hC hZ hW hR hlo (gH.set (i := 25) (v := .ref x) hls.2 rfl h'))
theorem V_az25 (q : Nat) {a0 a1 a2 a3 a4 a5 a6 a7 a8 a9 a10 a11 a12 a13 a14 a15 a16 a17 a18 a19 a20 a21 a22 a23 a24 b : Option Value} {t : List (Option Value)}  (d : decode cc pc = .ok (.astore 25, 2)) (hn : 25 < nL) (hq : pc + 2 = q) (k : V l G y cc nL ret R mc ms Z post L M cells slots (a0 :: a1 :: a2 :: a3 :: a4 :: a5 :: a6 :: a7 :: a8 :: a9 :: a10 :: a11 :: a12 :: a13 :: a14 :: a15 :: a16 :: a17 :: a18 :: a19 :: a20 :: a21 :: a22 :: a23 :: a24 :: some (.null) :: t) q st) : V l G y cc nL ret R mc ms Z post L M cells slots (a0 :: a1 :: a2 :: a3 :: a4 :: a5 :: a6 :: a7 :: a8 :: a9 :: a10 :: a11 :: a12 :: a13 :: a14 :: a15 :: a16 :: a17 :: a18 :: a19 :: a20 :: a21 :: a22 :: a23 :: a24 :: b :: t) pc (.null :: st) := by
  subst hq
  intro p e s m args below meth c r0 r H locs ls hC hZ hW hR hlo hls
  exact lv_astoreN hC.1 hC.2.1 d hls.1 hn rfl (fun ls' h' => k p e s m args below meth c r0 r H locs ls' hC hZ hW hR hlo (gH.set (i := 25) (v := .null) hls.2 rfl h'))
theorem V_ii25 (q : Nat) {a0 a1 a2 a3 a4 a5 a6 a7 a8 a9 a10 a11 a12 a13 a14 a15 a16 a17 a18 a19 a20 a21 a22 a23 a24 : Option Value} {t : List (Option Value)} {x v : Int32} {n : Int} (d : decode cc pc = .ok (.iinc 25 n, 3)) (hn : 25 < nL) (hv : Int32.ofInt n = v) (hq : pc + 3 = q) (k : V l G y cc nL ret R mc ms Z post L M cells slots (a0 :: a1 :: a2 :: a3 :: a4 :: a5 :: a6 :: a7 :: a8 :: a9 :: a10 :: a11 :: a12 :: a13 :: a14 :: a15 :: a16 :: a17 :: a18 :: a19 :: a20 :: a21 :: a22 :: a23 :: a24 :: some (.int (x + v)) :: t) q st) : V l G y cc nL ret R mc ms Z post L M cells slots (a0 :: a1 :: a2 :: a3 :: a4 :: a5 :: a6 :: a7 :: a8 :: a9 :: a10 :: a11 :: a12 :: a13 :: a14 :: a15 :: a16 :: a17 :: a18 :: a19 :: a20 :: a21 :: a22 :: a23 :: a24 :: some (.int x) :: t) pc st := by
  subst hq
  subst hv
  intro p e s m args below meth c r0 r H locs ls hC hZ hW hR hlo hls
  obtain ⟨k9, hk9⟩ := List.getElem?_of_mem (gP_mem.mpr ⟨.int x, rfl, rfl⟩ : (25, Value.int x) ∈ gP r (a0 :: a1 :: a2 :: a3 :: a4 :: a5 :: a6 :: a7 :: a8 :: a9 :: a10 :: a11 :: a12 :: a13 :: a14 :: a15 :: a16 :: a17 :: a18 :: a19 :: a20 :: a21 :: a22 :: a23 :: a24 :: some (.int x) :: t))
  exact lv_iinc hC.1 hC.2.1 d hls.1 hk9 rfl hn rfl (fun ls' h' => k p e s m args below meth c r0 r H locs ls' hC hZ hW hR hlo (gH.set (i := 25) (v := .int (x + Int32.ofInt n)) hls.2 rfl h'))
/-- more room is counted -/
theorem V_widen (k9 n9 : Nat) (h1 : cells ≤ k9) (h2 : slots ≤ n9) (k : V l G y cc nL ret R mc ms Z post L M k9 n9 lv pc st) : V l G y cc nL ret R mc ms Z post L M cells slots lv pc st := by
  intro p e s m args below meth c r0 r H locs ls hC hZ hW hR hlo hls
  exact W.widen h1 h2 (k p e s m args below meth c r0 r H locs ls hC hZ hW hR hlo hls)
end gRows
end
section
/-! the memory changes -/
theorem gP1 {D : va_G} {cl : List vw_C} {x : Nat × va_E} {H : Heap} (h : va_at D cl x H) : va_P D cl [x] H := by
  intro k z hk
  cases k with
  | zero => cases hk; exact h
  | succ k => simp at hk
def gst (M : gMe) (a k : Nat) (x : Int32) : gMe := va_up M a (upd (M a) k x)
theorem gst_at (M : gMe) (a k : Nat) (x : Int32) (b j : Nat) : gst M a k x b j = if b = a then (if j = k then x else M a j) else M b j := by
  unfold gst va_up upd
  by_cases h : b = a
  · simp [h]
  · simp [h]
theorem gst_same (M : gMe) (a k : Nat) (x : Int32) : gst M a k x a = upd (M a) k x := by simp [gst, va_up]
theorem gst_ne (M : gMe) (a k : Nat) (x : Int32) {b : Nat} (h : b ≠ a) : gst M a k x b = M b := by simp [gst, va_up, h]
theorem va_up_id {α : Type} (f : Nat → α) (a : Nat) : va_up f a (f a) = f := by
  funext b
  by_cases h : b = a
  · subst h; simp [va_up]
  · simp [va_up, h]
theorem gR.up {G : gG} {r : Nat → Nat} {L : gLy} {M : gMe} {H H' : Heap} {a : Nat} {kd kd' : gK} {u' : Nat → Int32} (hR : gR G r L M H) (hL : L a = some kd) (hat : va_at G.1 vwCl (r a, gE G.2.1 r kd' u') H') (hcl : ∀ b, gRf kd' b → b < 2 ∨ L b ≠ none)
    (z : H'.size = H.size) (oq : ∀ q : Nat, q ≠ r a → H'[q]? = H[q]?) : gR G r (va_up L a (some kd')) (va_up M a u') H' := by
  obtain ⟨h1, h2, h3, h4, h5, h6⟩ := hR
  have hne : ∀ b, va_up L a (some kd') b ≠ none ↔ L b ≠ none := by
    intro b
    by_cases hb : b = a
    · subst hb; simp [va_up, hL]
    · simp [va_up, hb]
  refine ⟨fun b k hb => ?_, fun b c hb hc => h2 b c ((hne b).mp hb) ((hne c).mp hc), fun b k hb x hx => ?_, h4, by omega, fun q hq => ?_⟩
  · by_cases hba : b = a
    · subst hba
      rw [va_up_self] at hb
      cases hb
      rw [va_up_self]
      exact ⟨hat, (h1 b kd hL).2⟩
    · rw [va_up_ne _ _ hba] at hb
      rw [va_up_ne _ _ hba]
      obtain ⟨g1, g2⟩ := h1 b k hb
      exact ⟨g1.kept (oq _ (fun e => hba (h2 b a (by rw [hb]; exact fun h => by cases h) (by rw [hL]; exact fun h => by cases h) e))), g2⟩
  · rw [hne x]
    by_cases hba : b = a
    · subst hba
      rw [va_up_self] at hb
      cases hb
      exact hcl x hx
    · rw [va_up_ne _ _ hba] at hb
      exact h3 b k hb x hx
  · have hB := (h1 a kd hL).2.1
    rw [oq q (by omega)]
    exact h6 q hq
theorem gR.upM {G : gG} {r : Nat → Nat} {L : gLy} {M : gMe} {H H' : Heap} {a : Nat} {kd : gK} {u' : Nat → Int32} (hR : gR G r L M H) (hL : L a = some kd) (hat : va_at G.1 vwCl (r a, gE G.2.1 r kd u') H')
    (z : H'.size = H.size) (oq : ∀ q : Nat, q ≠ r a → H'[q]? = H[q]?) : gR G r L (va_up M a u') H' := by
  have h := gR.up hR hL hat (hR.2.2.1 a kd hL) z oq
  rw [← hL, va_up_id] at h
  exact h
theorem gR.new {G : gG} {r : Nat → Nat} {L : gLy} {M : gMe} {H H' : Heap} {a : Nat} {kd : gK} (hR : gR G r L M H) (hL : L a = none) (h2a : 2 ≤ a) (hat : va_at G.1 vwCl (H.size, gE G.2.1 (va_up r a H.size) kd (fun _ => 0)) H') (hcl : ∀ b, gRf kd b → b < 2 ∨ L b ≠ none)
    (z : H'.size = H.size + 1) (oq : ∀ q : Nat, q < H.size → H'[q]? = H[q]?) : gR G (va_up r a H.size) (va_up L a (some kd)) (va_up M a (fun _ => 0)) H' := by
  obtain ⟨h1, h2, h3, h4, h5, h6⟩ := hR
  have hlt : ∀ b k, L b = some k → r b < H.size := fun b k hb => (h1 b k hb).1.lt
  have hex : ∀ b, L b ≠ none → ∃ k, L b = some k := fun b hb => by
    cases hk : L b with
    | none => exact absurd hk hb
    | some k => exact ⟨k, rfl⟩
  refine ⟨fun b k hb => ?_, fun b c hb hc hbc => ?_, fun b k hb x hx => ?_, fun i hi => ?_, by omega, fun q hq => ?_⟩
  · by_cases hba : b = a
    · subst hba
      rw [va_up_self] at hb
      cases hb
      rw [va_up_self, va_up_self]
      exact ⟨hat, h5, h2a⟩
    · rw [va_up_ne _ _ hba] at hb
      rw [va_up_ne _ _ hba, va_up_ne _ _ hba]
      obtain ⟨g1, g2⟩ := h1 b k hb
      have e : gE G.2.1 (va_up r a H.size) k (M b) = gE G.2.1 r k (M b) := gE_eq (fun x hx => by
        rw [va_up_ne]
        rintro rfl
        rcases h3 b k hb x hx with h | h
        · omega
        · exact h hL)
      rw [e]
      exact ⟨g1.kept (oq _ g1.lt), g2⟩
  · by_cases hba : b = a
    · by_cases hca : c = a
      · rw [hba, hca]
      · subst hba
        rw [va_up_ne _ _ hca] at hc
        obtain ⟨k, hk⟩ := hex c hc
        rw [va_up_self, va_up_ne _ _ hca] at hbc
        have := hlt c k hk
        omega
    · rw [va_up_ne _ _ hba] at hb
      obtain ⟨k, hk⟩ := hex b hb
      by_cases hca : c = a
      · subst hca
        rw [va_up_self, va_up_ne _ _ hba] at hbc
        have := hlt b k hk
        omega
      · rw [va_up_ne _ _ hca] at hc
        rw [va_up_ne _ _ hba, va_up_ne _ _ hca] at hbc
        exact h2 b c hb hc hbc
  · have up : ∀ x, L x ≠ none → va_up L a (some kd) x ≠ none := by
      intro x hx
      by_cases hxa : x = a
      · subst hxa; rw [va_up_self]; exact fun h => by cases h
      · rw [va_up_ne _ _ hxa]; exact hx
    by_cases hba : b = a
    · subst hba
      rw [va_up_self] at hb
      cases hb
      exact (hcl x hx).imp id (up x)
    · rw [va_up_ne _ _ hba] at hb
      exact (h3 b k hb x hx).imp id (up x)
  · rw [va_up_ne _ _ (by omega)]
    exact h4 i hi
  · rw [oq q (by omega)]
    exact h6 q hq
/-- a place is given up: nothing refers to it -/
theorem gR.drop {G : gG} {r : Nat → Nat} {L : gLy} {M : gMe} {H : Heap} {a : Nat} (hR : gR G r L M H) (hno : ∀ b k, L b = some k → b ≠ a → ¬ gRf k a) : gR G r (va_up L a none) M H := by
  obtain ⟨h1, h2, h3, h4, h5, h6⟩ := hR
  have dn : ∀ x k, va_up L a none x = some k → x ≠ a ∧ L x = some k := by
    intro x k hx
    by_cases hxa : x = a
    · subst hxa; rw [va_up_self] at hx; cases hx
    · rw [va_up_ne _ _ hxa] at hx; exact ⟨hxa, hx⟩
  have dn' : ∀ x, va_up L a none x ≠ none → L x ≠ none := by
    intro x hx
    by_cases hxa : x = a
    · subst hxa; rw [va_up_self] at hx; exact absurd rfl hx
    · rw [va_up_ne _ _ hxa] at hx; exact hx
  refine ⟨fun b k hb => h1 b k (dn b k hb).2, fun b c hb hc => h2 b c (dn' b hb) (dn' c hc), fun b k hb x hx => ?_, h4, h5, h6⟩
  obtain ⟨hba, hb'⟩ := dn b k hb
  have hxa : x ≠ a := by rintro rfl; exact hno b k hb' hba hx
  rw [va_up_ne _ _ hxa]
  exact h3 b k hb' x hx
/-- the references that a frame holds -/
def gcl (Z : Nat → Prop) (lv : List (Option Value)) (st : List Value) : Prop := (∀ a, some (Value.ref a) ∈ lv → Z a) ∧ ∀ a, Value.ref a ∈ st → Z a
theorem gcl_all {lv : List (Option Value)} {st : List Value} : gcl (fun _ => True) lv st := ⟨fun _ _ => trivial, fun _ _ => trivial⟩
theorem gst_re {r r' : Nat → Nat} {st : List Value} (h : ∀ a, Value.ref a ∈ st → r' a = r a) : st.map (gV r') = st.map (gV r) := List.map_congr_left (fun v hv => gV_eq (fun a ha => h a (by subst ha; exact hv)))
/-- a class's table -/
def gCl (ci : Nat) (C : String) (T : u_T) (N : Nat) (ty : Nat → FieldType) : Prop := vwCl[ci]? = some (C, T, N) ∧ (∀ w ∈ u_ws C T N, w ∈ TB) ∧ (∀ k, k < N → parseFieldDescriptor (T k).2.2.1 = some (ty k)) ∧ ∀ a, a < N → ∀ b, b < N → a ≠ b → (T a).2.1 ≠ (T b).2.1
def gFl (own : String) (index : Nat) (ref nm ds : String) : Prop := Cond.fieldLink own index ref nm ds ∈ TB ∨ ∃ host, Cond.fieldLinkNest own index ref nm ds host ∈ NB
def gSf (ref O nm ds : String) : Prop := ref = O ∨ Cond.sameField ref O nm ds ∈ TB
theorem gSf.use {G : gG} {s : State} {args : Array Value} {ref O nm ds : String} (h : gSf ref O nm ds) (hW : gW G s) : ∀ x, s.fieldFound? O nm ds = some x → s.fieldFound? ref nm ds = some x := by
  rcases h with rfl | h
  · exact fun _ h => h
  · exact fun x hx => u_same (args := args) (hW.t h) x hx
section gMem
variable {l : Launch} {G : gG} {y : MethodName} {cc : ByteArray} {nL : Nat} {ret : Option FieldType} {R : Room} {mc ms : Nat} {Z : Nat → Prop} {post : Option Value → gLy → gMe → Prop} {L : gLy} {M : gMe} {cells slots : Nat} {lv : List (Option Value)} {pc : Nat} {st : List Value}
theorem V_getv (q k : Nat) {a ci index N : Nat} {C ref : String} {T : u_T} {ty : Nat → FieldType} {fs : List (Option Value)} {o : Option Value} {v : Value} (hL : L a = some (.inr (ci, fs))) (hc : gCl ci C T N ty) (hk : k < N) (hl : gFl y.cls index ref (T k).2.1 (T k).2.2.1) (hs : gSf ref (T k).1 (T k).2.1 (T k).2.2.1) (hf : fs[k]? = some o) (hv : ∀ r, gO r (M a k) o = gV r v) (d : decode cc pc = .ok (.getfield index, 3)) (hq : pc + 3 = q)
    (kk : V l G y cc nL ret R mc ms Z post L M cells slots lv q (v :: st)) : V l G y cc nL ret R mc ms Z post L M cells slots lv pc (.ref a :: st) := by
  subst hq
  intro p e s m args below meth c r0 r H locs ls hC hZ hW hR hlo hls
  have hP := gP1 (hR.1 a _ hL).1
  have hv' : (gF r (M a) fs)[k]? = some (gV r v) := by rw [gF_at, hf]; exact congrArg some (hv r)
  rcases hl with hl | ⟨host, hl⟩
  · exact va_get (Ts := TB) hC.1 hC.2.1 (fun w hw => hW.t hw) hc.2.1 hC.2.2.2.2.1 hW.2.2.1 hP 0 rfl hc.1 k hk (hW.t hl) (hs.use (args := args) hW) hv' d (kk p e s m args below meth c r0 r H locs ls hC hZ hW hR hlo hls)
  · exact va_getN (Ts := TB) hC.1 hC.2.1 (fun w hw => hW.t hw) hc.2.1 hC.2.2.2.2.1 hW.2.2.1 hP 0 rfl hc.1 k hk (va_Nw.use rfl (hW.2.1 _ hl)) (hs.use (args := args) hW) hv' d (kk p e s m args below meth c r0 r H locs ls hC hZ hW hR hlo hls)
/-- an int field -/
theorem V_geti (q k : Nat) {a ci index N : Nat} {C ref : String} {T : u_T} {ty : Nat → FieldType} {fs : List (Option Value)} (hL : L a = some (.inr (ci, fs))) (hc : gCl ci C T N ty) (hk : k < N) (hl : gFl y.cls index ref (T k).2.1 (T k).2.2.1) (hs : gSf ref (T k).1 (T k).2.1 (T k).2.2.1) (hf : fs[k]? = some none) (d : decode cc pc = .ok (.getfield index, 3)) (hq : pc + 3 = q)
    (kk : V l G y cc nL ret R mc ms Z post L M cells slots lv q (.int (M a k) :: st)) : V l G y cc nL ret R mc ms Z post L M cells slots lv pc (.ref a :: st) :=
  V_getv q k hL hc hk hl hs hf (fun _ => rfl) d hq kk
/-- a reference field -/
theorem V_getr (q k : Nat) {a ci index N : Nat} {C ref : String} {T : u_T} {ty : Nat → FieldType} {fs : List (Option Value)} {v : Value} (hL : L a = some (.inr (ci, fs))) (hc : gCl ci C T N ty) (hk : k < N) (hl : gFl y.cls index ref (T k).2.1 (T k).2.2.1) (hs : gSf ref (T k).1 (T k).2.1 (T k).2.2.1) (hf : fs[k]? = some (some v)) (d : decode cc pc = .ok (.getfield index, 3)) (hq : pc + 3 = q)
    (kk : V l G y cc nL ret R mc ms Z post L M cells slots lv q (v :: st)) : V l G y cc nL ret R mc ms Z post L M cells slots lv pc (.ref a :: st) :=
  V_getv q k hL hc hk hl hs hf (fun _ => rfl) d hq kk
/-- a field is written: what comes of it in the heap -/
theorem gput {p : Program} {e : Env} {s : State} {m : MethodId} {args : Array Value} {below : List Frame} {meth : Method} {c : Code} {r : Nat → Nat} {H : Heap} {locs : List Loc} {ls : Array Slot} {Q : State → Prop} {st' : List Value} (k : Nat) {a ci index N : Nat} {C ref : String} {T : u_T} {ty : Nat → FieldType} {fs : List (Option Value)} {v : Value}
    (hC : gC p s m meth c y cc nL ret) (hW : gW G s) (hR : gR G r L M H) (hL : L a = some (.inr (ci, fs))) (hc : gCl ci C T N ty) (hk : k < N) (hl : gFl y.cls index ref (T k).2.1 (T k).2.2.1) (hs : gSf ref (T k).1 (T k).2.1 (T k).2.2.1) (hfin : (T k).2.2.2 = false) (hn : narrow (ty k) v = v) (hfit : fits (ty k) v = true) (hlen : k < fs.length) (d : decode cc pc = .ok (.putfield index, 3))
    (kk : ∀ (H' : Heap) (z9 : Nat), va_at G.1 vwCl (r a, .inr (ci, (gF r (M a) fs).set k v)) H' → H'.size = H.size → (∀ q : Nat, q ≠ r a → H'[q]? = H[q]?) → W p l e R s m args below meth c H' (locs ++ [⟨r a, z9⟩]) cells slots Q (F0 m (pc + 3) ls st')) : W p l e R s m args below meth c H locs cells slots Q (F0 m pc ls (v :: .ref (r a) :: st')) := by
  have hap := va_apart (own := y.cls) (Ts := TB) (args := args) (fun w hw => hW.t hw) hc.2.1 ty hc.2.2.1 hc.2.2.2 hW.2.2.1 hc.1
  obtain ⟨r9, g1, cell, q1, q2, q3, q4⟩ := (hR.1 a _ hL).1
  have hr : r9 = (C, T, N) := Option.some.inj (g1.symm.trans hc.1)
  subst hr
  obtain ⟨hS, hfc, kC, hkC, hkind⟩ := hW.2.2.1.1 ci _ hc.1
  obtain ⟨cf, kf, fi, f, hi, hsl⟩ := hS k hk
  have hlay : (u_lay C T k).before args s = true := hW.t (hc.2.1 _ (u_in_lay hk))
  unfold u_lay at hlay
  rw [if_neg (by rw [hfin]; decide)] at hlay
  have hst := (u_facts hfc hkC (Or.inl hlay) hi).1
  have h6 := u_store hfc hkC hkind hlay hi (hc.2.2.1 k hk) hn hfit
  have hlen' : k < (gF r (M a) fs).length := by rw [gF_len]; exact hlen
  rcases hl with hl | ⟨host, hl⟩
  · refine W.putK hC.1 hC.2.1 (f := f) ⟨hC.2.2.2.2.1, hW.t hl, ⟨_, _, _, hs.use (args := args) hW _ hi⟩, hst⟩ (by rw [q2]; exact h6) q1 q3 (by rw [hsl]; exact k2_hasslot (q4 k hk)) rfl rfl d fun H' e1 e2 e3 => ?_
    rw [hsl] at e1 ⊢
    exact kk H' _ ⟨_, hc.1, t_OB.to (V := updV (vp_V (gF r (M a) fs)) k v) ⟨_, e1, q2, q3, t_set q4 hap hk v⟩ (fun j _ => vp_updV_set hlen' v j)⟩ e2 e3
  · refine va_WputK hC.1 hC.2.1 (f := f) hC.2.2.2.2.1 (va_Nw.use rfl (hW.2.1 _ hl)) (hs.use (args := args) hW _ hi) hst (by rw [q2]; exact h6) q1 q3 (by rw [hsl]; exact k2_hasslot (q4 k hk)) rfl rfl d fun H' e1 e2 e3 => ?_
    rw [hsl] at e1 ⊢
    exact kk H' _ ⟨_, hc.1, t_OB.to (V := updV (vp_V (gF r (M a) fs)) k v) ⟨_, e1, q2, q3, t_set q4 hap hk v⟩ (fun j _ => vp_updV_set hlen' v j)⟩ e2 e3
/-- the same of a final field in its class's constructor -/
theorem gputF {p : Program} {e : Env} {s : State} {m : MethodId} {args : Array Value} {below : List Frame} {meth : Method} {c : Code} {r : Nat → Nat} {H : Heap} {locs : List Loc} {ls : Array Slot} {Q : State → Prop} {st' : List Value} (k : Nat) {a ci index N : Nat} {C : String} {T : u_T} {ty : Nat → FieldType} {fs : List (Option Value)} {v : Value}
    (hC : gC p s m meth c y cc nL ret) (hW : gW G s) (hR : gR G r L M H) (hL : L a = some (.inr (ci, fs))) (hc : gCl ci C T N ty) (hk : k < N) (hl : Cond.fieldLink y.cls index (T k).1 (T k).2.1 (T k).2.2.1 ∈ TB) (hin : y.name = "<init>") (hdec : (T k).1 = y.cls) (hfin : (T k).2.2.2 = true) (hn : narrow (ty k) v = v) (hfit : fits (ty k) v = true) (hlen : k < fs.length) (d : decode cc pc = .ok (.putfield index, 3))
    (kk : ∀ (H' : Heap) (z9 : Nat), va_at G.1 vwCl (r a, .inr (ci, (gF r (M a) fs).set k v)) H' → H'.size = H.size → (∀ q : Nat, q ≠ r a → H'[q]? = H[q]?) → W p l e R s m args below meth c H' (locs ++ [⟨r a, z9⟩]) cells slots Q (F0 m (pc + 3) ls st')) : W p l e R s m args below meth c H locs cells slots Q (F0 m pc ls (v :: .ref (r a) :: st')) := by
  have hap := va_apart (own := y.cls) (Ts := TB) (args := args) (fun w hw => hW.t hw) hc.2.1 ty hc.2.2.1 hc.2.2.2 hW.2.2.1 hc.1
  obtain ⟨r9, g1, cell, q1, q2, q3, q4⟩ := (hR.1 a _ hL).1
  have hr : r9 = (C, T, N) := Option.some.inj (g1.symm.trans hc.1)
  subst hr
  obtain ⟨hS, hfc, kC, hkC, hkind⟩ := hW.2.2.1.1 ci _ hc.1
  obtain ⟨cf, kf, fi, f, hi, hsl⟩ := hS k hk
  have hlay : (u_lay C T k).before args s = true := hW.t (hc.2.1 _ (u_in_lay hk))
  unfold u_lay at hlay
  rw [if_pos hfin] at hlay
  have hst := (u_facts hfc hkC (Or.inr hlay) hi).1
  have hcf : m.cls = cf := by
    obtain ⟨_, _, c', _, _, _, -, -, hf', -, -, -, hown2, -⟩ := Cond.laysFinal_spec hlay
    have e1 : c' = cf := by have := hi.symm.trans hf'; simp at this; exact this.1.symm
    rw [hdec] at hown2
    rw [← e1]; exact Option.some.inj (hC.2.2.2.2.1.symm.trans hown2)
  have h6 := u_fits hfc hkC hkind (Or.inr hlay) hi (hc.2.2.1 k hk) hn hfit
  have hlen' : k < (gF r (M a) fs).length := by rw [gF_len]; exact hlen
  refine W.putFinK hC.1 hC.2.1 hC.2.2.2.2.1 (hW.t hl) hi hst hcf (hC.2.2.2.2.2.2.trans hin) (by rw [q2]; exact h6) q1 q3 (by rw [hsl]; exact k2_hasslot (q4 k hk)) rfl rfl d fun H' e1 e2 e3 => ?_
  rw [hsl] at e1 ⊢
  exact kk H' _ ⟨_, hc.1, t_OB.to (V := updV (vp_V (gF r (M a) fs)) k v) ⟨_, e1, q2, q3, t_set q4 hap hk v⟩ (fun j _ => vp_updV_set hlen' v j)⟩ e2 e3
theorem glo {B a z9 : Nat} {locs : List Loc} (hlo : ∀ q ∈ locs, B ≤ q.base) (ha : B ≤ a) : ∀ q ∈ locs ++ [⟨a, z9⟩], B ≤ q.base := by
  intro q hq
  rcases List.mem_append.mp hq with h | h
  · exact hlo q h
  · rw [List.mem_singleton] at h
    subst h
    exact ha
theorem V_puti (q k : Nat) {a ci index N : Nat} {C ref : String} {T : u_T} {ty : Nat → FieldType} {fs : List (Option Value)} {x : Int32} (hL : L a = some (.inr (ci, fs))) (hc : gCl ci C T N ty) (hk : k < N) (hl : gFl y.cls index ref (T k).2.1 (T k).2.2.1) (hs : gSf ref (T k).1 (T k).2.1 (T k).2.2.1) (hfin : (T k).2.2.2 = false) (hn : narrow (ty k) (.int x) = .int x) (hfit : fits (ty k) (.int x) = true) (hf : fs[k]? = some none) (d : decode cc pc = .ok (.putfield index, 3)) (hq : pc + 3 = q)
    (kk : V l G y cc nL ret R mc ms Z post L (gst M a k x) cells slots lv q st) : V l G y cc nL ret R mc ms Z post L M cells slots lv pc (.int x :: .ref a :: st) := by
  subst hq
  intro p e s m args below meth c r0 r H locs ls hC hZ hW hR hlo hls
  refine gput k (v := .int x) hC hW hR hL hc hk hl hs hfin hn hfit (List.getElem?_eq_some_iff.mp hf).1 d fun H' z9 g z oq => ?_
  refine kk p e s m args below meth c r0 r H' _ ls hC hZ hW (hR.upM hL ?_ z oq) (glo hlo (hR.1 a _ hL).2.1) hls
  rw [gF_seti r (M a) x hf] at g
  exact g
theorem V_putiF (q k : Nat) {a ci index N : Nat} {C : String} {T : u_T} {ty : Nat → FieldType} {fs : List (Option Value)} {x : Int32} (hL : L a = some (.inr (ci, fs))) (hc : gCl ci C T N ty) (hk : k < N) (hl : Cond.fieldLink y.cls index (T k).1 (T k).2.1 (T k).2.2.1 ∈ TB) (hin : y.name = "<init>") (hdec : (T k).1 = y.cls) (hfin : (T k).2.2.2 = true) (hn : narrow (ty k) (.int x) = .int x) (hfit : fits (ty k) (.int x) = true) (hf : fs[k]? = some none) (d : decode cc pc = .ok (.putfield index, 3)) (hq : pc + 3 = q)
    (kk : V l G y cc nL ret R mc ms Z post L (gst M a k x) cells slots lv q st) : V l G y cc nL ret R mc ms Z post L M cells slots lv pc (.int x :: .ref a :: st) := by
  subst hq
  intro p e s m args below meth c r0 r H locs ls hC hZ hW hR hlo hls
  refine gputF k (v := .int x) hC hW hR hL hc hk hl hin hdec hfin hn hfit (List.getElem?_eq_some_iff.mp hf).1 d fun H' z9 g z oq => ?_
  refine kk p e s m args below meth c r0 r H' _ ls hC hZ hW (hR.upM hL ?_ z oq) (glo hlo (hR.1 a _ hL).2.1) hls
  rw [gF_seti r (M a) x hf] at g
  exact g
/-- what a reference field may get: an object of the memory, a given table, null -/
def gpr (L : gLy) (v : Value) : Prop := ∀ b, v = .ref b → b < 2 ∨ L b ≠ none
theorem gcl_set {L : gLy} {ci k : Nat} {fs : List (Option Value)} {v : Value} (h : ∀ b, gRf (.inr (ci, fs)) b → b < 2 ∨ L b ≠ none) (hv : gpr L v) : ∀ b, gRf (.inr (ci, fs.set k (some v))) b → b < 2 ∨ L b ≠ none := by
  intro b hb
  rcases List.mem_or_eq_of_mem_set (show some (Value.ref b) ∈ fs.set k (some v) from hb) with hb | hb
  · exact h b hb
  · exact hv b (Option.some.inj hb).symm
theorem V_putr (q k : Nat) {a ci index N : Nat} {C ref : String} {T : u_T} {ty : Nat → FieldType} {fs : List (Option Value)} {v : Value} (hL : L a = some (.inr (ci, fs))) (hc : gCl ci C T N ty) (hk : k < N) (hl : gFl y.cls index ref (T k).2.1 (T k).2.2.1) (hs : gSf ref (T k).1 (T k).2.1 (T k).2.2.1) (hfin : (T k).2.2.2 = false) (hn : ∀ r, narrow (ty k) (gV r v) = gV r v) (hfit : ∀ r, fits (ty k) (gV r v) = true) (hlen : k < fs.length) (hv : gpr L v) (d : decode cc pc = .ok (.putfield index, 3)) (hq : pc + 3 = q)
    (kk : V l G y cc nL ret R mc ms Z post (va_up L a (some (.inr (ci, fs.set k (some v))))) M cells slots lv q st) : V l G y cc nL ret R mc ms Z post L M cells slots lv pc (v :: .ref a :: st) := by
  subst hq
  intro p e s m args below meth c r0 r H locs ls hC hZ hW hR hlo hls
  refine gput k (v := gV r v) hC hW hR hL hc hk hl hs hfin (hn r) (hfit r) hlen d fun H' z9 g z oq => ?_
  have h := hR.up (kd' := .inr (ci, fs.set k (some v))) (u' := M a) hL (by rw [gF_setr r (M a) v hlen] at g; exact g) (gcl_set (hR.2.2.1 a _ hL) hv) z oq
  rw [va_up_id] at h
  exact kk p e s m args below meth c r0 r H' _ ls hC hZ hW h (glo hlo (hR.1 a _ hL).2.1) hls
theorem V_putrF (q k : Nat) {a ci index N : Nat} {C : String} {T : u_T} {ty : Nat → FieldType} {fs : List (Option Value)} {v : Value} (hL : L a = some (.inr (ci, fs))) (hc : gCl ci C T N ty) (hk : k < N) (hl : Cond.fieldLink y.cls index (T k).1 (T k).2.1 (T k).2.2.1 ∈ TB) (hin : y.name = "<init>") (hdec : (T k).1 = y.cls) (hfin : (T k).2.2.2 = true) (hn : ∀ r, narrow (ty k) (gV r v) = gV r v) (hfit : ∀ r, fits (ty k) (gV r v) = true) (hlen : k < fs.length) (hv : gpr L v) (d : decode cc pc = .ok (.putfield index, 3)) (hq : pc + 3 = q)
    (kk : V l G y cc nL ret R mc ms Z post (va_up L a (some (.inr (ci, fs.set k (some v))))) M cells slots lv q st) : V l G y cc nL ret R mc ms Z post L M cells slots lv pc (v :: .ref a :: st) := by
  subst hq
  intro p e s m args below meth c r0 r H locs ls hC hZ hW hR hlo hls
  refine gputF k (v := gV r v) hC hW hR hL hc hk hl hin hdec hfin (hn r) (hfit r) hlen d fun H' z9 g z oq => ?_
  have h := hR.up (kd' := .inr (ci, fs.set k (some v))) (u' := M a) hL (by rw [gF_setr r (M a) v hlen] at g; exact g) (gcl_set (hR.2.2.1 a _ hL) hv) z oq
  rw [va_up_id] at h
  exact kk p e s m args below meth c r0 r H' _ ls hC hZ hW h (glo hlo (hR.1 a _ hL).2.1) hls
end gMem
end

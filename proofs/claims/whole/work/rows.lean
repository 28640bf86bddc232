section
-- ===== PART A: goes FIRST, ahead of the names: the tables' words, and 'selects' of the private methods out of them =====
/-- a private method of a class that the tables say can be made, by its rows of tables_1 -/
def lw_okq (q : MethodName × Nat) : Prop := (q.1.cls ≠ "java/lang/invoke/MethodHandle" ∧ q.1.cls ≠ "java/lang/invoke/VarHandle") ∧ Cond.instantiable q.1.cls q.2 ∈ tables_1 ∧ Cond.privateMethod q.1 ∈ tables_1 ∧ Cond.instanceMethod q.1 ∈ tables_1
theorem lw_p0 : lw_okq (⟨"ProofGate", "sealOf", "(LProofGate$Credential;)I"⟩, 10) := ⟨⟨by decide +kernel, by decide +kernel⟩, List.mem_of_getElem? (i := 28) (by decide +kernel), List.mem_of_getElem? (i := 280) (by decide +kernel), List.mem_of_getElem? (i := 281) (by decide +kernel)⟩
theorem lw_p1 : lw_okq (⟨"ProofGate$Credential", "mark", "()I"⟩, 6) := ⟨⟨by decide +kernel, by decide +kernel⟩, List.mem_of_getElem? (i := 236) (by decide +kernel), List.mem_of_getElem? (i := 284) (by decide +kernel), List.mem_of_getElem? (i := 285) (by decide +kernel)⟩
theorem lw_p2 : lw_okq (⟨"ProofGate$Credentials", "letTimeGoOn", "(I)I"⟩, 2) := ⟨⟨by decide +kernel, by decide +kernel⟩, List.mem_of_getElem? (i := 36) (by decide +kernel), List.mem_of_getElem? (i := 301) (by decide +kernel), List.mem_of_getElem? (i := 302) (by decide +kernel)⟩
theorem lw_p3 : lw_okq (⟨"ProofGate$Proof", "append", "(III)I"⟩, 4) := ⟨⟨by decide +kernel, by decide +kernel⟩, List.mem_of_getElem? (i := 76) (by decide +kernel), List.mem_of_getElem? (i := 309) (by decide +kernel), List.mem_of_getElem? (i := 310) (by decide +kernel)⟩
theorem lw_p4 : lw_okq (⟨"ProofGate$Proof", "makeEmpty", "()I"⟩, 4) := ⟨⟨by decide +kernel, by decide +kernel⟩, List.mem_of_getElem? (i := 76) (by decide +kernel), List.mem_of_getElem? (i := 317) (by decide +kernel), List.mem_of_getElem? (i := 318) (by decide +kernel)⟩
theorem lw_p5 : lw_okq (⟨"ProofGate$Proof", "length", "()I"⟩, 4) := ⟨⟨by decide +kernel, by decide +kernel⟩, List.mem_of_getElem? (i := 76) (by decide +kernel), List.mem_of_getElem? (i := 325) (by decide +kernel), List.mem_of_getElem? (i := 326) (by decide +kernel)⟩
theorem lw_p6 : lw_okq (⟨"ProofGate$Proof", "hasStep", "(I)Z"⟩, 4) := ⟨⟨by decide +kernel, by decide +kernel⟩, List.mem_of_getElem? (i := 76) (by decide +kernel), List.mem_of_getElem? (i := 333) (by decide +kernel), List.mem_of_getElem? (i := 334) (by decide +kernel)⟩
theorem lw_p7 : lw_okq (⟨"ProofGate$Proof", "ruleAt", "(I)I"⟩, 4) := ⟨⟨by decide +kernel, by decide +kernel⟩, List.mem_of_getElem? (i := 76) (by decide +kernel), List.mem_of_getElem? (i := 337) (by decide +kernel), List.mem_of_getElem? (i := 338) (by decide +kernel)⟩
theorem lw_p8 : lw_okq (⟨"ProofGate$Proof", "xAt", "(I)I"⟩, 4) := ⟨⟨by decide +kernel, by decide +kernel⟩, List.mem_of_getElem? (i := 76) (by decide +kernel), List.mem_of_getElem? (i := 341) (by decide +kernel), List.mem_of_getElem? (i := 342) (by decide +kernel)⟩
theorem lw_p9 : lw_okq (⟨"ProofGate$Proof", "yAt", "(I)I"⟩, 4) := ⟨⟨by decide +kernel, by decide +kernel⟩, List.mem_of_getElem? (i := 76) (by decide +kernel), List.mem_of_getElem? (i := 345) (by decide +kernel), List.mem_of_getElem? (i := 346) (by decide +kernel)⟩
theorem lw_p10 : lw_okq (⟨"ProofGate", "isOpenTo", "(II)Z"⟩, 10) := ⟨⟨by decide +kernel, by decide +kernel⟩, List.mem_of_getElem? (i := 28) (by decide +kernel), List.mem_of_getElem? (i := 362) (by decide +kernel), List.mem_of_getElem? (i := 363) (by decide +kernel)⟩
theorem lw_p11 : lw_okq (⟨"ProofGate", "sayerOfGoal", "(II)I"⟩, 10) := ⟨⟨by decide +kernel, by decide +kernel⟩, List.mem_of_getElem? (i := 28) (by decide +kernel), List.mem_of_getElem? (i := 366) (by decide +kernel), List.mem_of_getElem? (i := 367) (by decide +kernel)⟩
theorem lw_p12 : lw_okq (⟨"ProofGate$Prover", "writeProof", "(IIII)I"⟩, 9) := ⟨⟨by decide +kernel, by decide +kernel⟩, List.mem_of_getElem? (i := 95) (by decide +kernel), List.mem_of_getElem? (i := 370) (by decide +kernel), List.mem_of_getElem? (i := 371) (by decide +kernel)⟩
theorem lw_p13 : lw_okq (⟨"ProofGate$Prover", "finds", "(II)Z"⟩, 9) := ⟨⟨by decide +kernel, by decide +kernel⟩, List.mem_of_getElem? (i := 95) (by decide +kernel), List.mem_of_getElem? (i := 377) (by decide +kernel), List.mem_of_getElem? (i := 378) (by decide +kernel)⟩
theorem lw_p14 : lw_okq (⟨"ProofGate$Prover", "findWhatIsSaid", "(I)V"⟩, 9) := ⟨⟨by decide +kernel, by decide +kernel⟩, List.mem_of_getElem? (i := 95) (by decide +kernel), List.mem_of_getElem? (i := 382) (by decide +kernel), List.mem_of_getElem? (i := 383) (by decide +kernel)⟩
theorem lw_p15 : lw_okq (⟨"ProofGate$Credentials", "count", "()I"⟩, 2) := ⟨⟨by decide +kernel, by decide +kernel⟩, List.mem_of_getElem? (i := 36) (by decide +kernel), List.mem_of_getElem? (i := 386) (by decide +kernel), List.mem_of_getElem? (i := 387) (by decide +kernel)⟩
def lw_privs_1 : List (MethodName × Nat) := [(⟨"ProofGate", "sealOf", "(LProofGate$Credential;)I"⟩, 10), (⟨"ProofGate$Credential", "mark", "()I"⟩, 6), (⟨"ProofGate$Credentials", "letTimeGoOn", "(I)I"⟩, 2), (⟨"ProofGate$Proof", "append", "(III)I"⟩, 4), (⟨"ProofGate$Proof", "makeEmpty", "()I"⟩, 4), (⟨"ProofGate$Proof", "length", "()I"⟩, 4), (⟨"ProofGate$Proof", "hasStep", "(I)Z"⟩, 4), (⟨"ProofGate$Proof", "ruleAt", "(I)I"⟩, 4), (⟨"ProofGate$Proof", "xAt", "(I)I"⟩, 4), (⟨"ProofGate$Proof", "yAt", "(I)I"⟩, 4), (⟨"ProofGate", "isOpenTo", "(II)Z"⟩, 10), (⟨"ProofGate", "sayerOfGoal", "(II)I"⟩, 10), (⟨"ProofGate$Prover", "writeProof", "(IIII)I"⟩, 9), (⟨"ProofGate$Prover", "finds", "(II)Z"⟩, 9), (⟨"ProofGate$Prover", "findWhatIsSaid", "(I)V"⟩, 9), (⟨"ProofGate$Credentials", "count", "()I"⟩, 2)]
theorem lw_r1 : ∀ q ∈ lw_privs_1, lw_okq q := List.forall_mem_cons.mpr ⟨lw_p0, List.forall_mem_cons.mpr ⟨lw_p1, List.forall_mem_cons.mpr ⟨lw_p2, List.forall_mem_cons.mpr ⟨lw_p3, List.forall_mem_cons.mpr ⟨lw_p4, List.forall_mem_cons.mpr ⟨lw_p5, List.forall_mem_cons.mpr ⟨lw_p6, List.forall_mem_cons.mpr ⟨lw_p7, List.forall_mem_cons.mpr ⟨lw_p8, List.forall_mem_cons.mpr ⟨lw_p9, List.forall_mem_cons.mpr ⟨lw_p10, List.forall_mem_cons.mpr ⟨lw_p11, List.forall_mem_cons.mpr ⟨lw_p12, List.forall_mem_cons.mpr ⟨lw_p13, List.forall_mem_cons.mpr ⟨lw_p14, List.forall_mem_cons.mpr ⟨lw_p15, fun _ h => absurd h List.not_mem_nil⟩⟩⟩⟩⟩⟩⟩⟩⟩⟩⟩⟩⟩⟩⟩⟩
theorem lw_p16 : lw_okq (⟨"ProofGate$Credentials", "findValid", "(I)LProofGate$Credential;"⟩, 2) := ⟨⟨by decide +kernel, by decide +kernel⟩, List.mem_of_getElem? (i := 36) (by decide +kernel), List.mem_of_getElem? (i := 394) (by decide +kernel), List.mem_of_getElem? (i := 395) (by decide +kernel)⟩
theorem lw_p17 : lw_okq (⟨"ProofGate$Credentials", "find", "(I)LProofGate$Credential;"⟩, 2) := ⟨⟨by decide +kernel, by decide +kernel⟩, List.mem_of_getElem? (i := 36) (by decide +kernel), List.mem_of_getElem? (i := 398) (by decide +kernel), List.mem_of_getElem? (i := 399) (by decide +kernel)⟩
theorem lw_p18 : lw_okq (⟨"ProofGate$Credential", "isValidAt", "(I)Z"⟩, 6) := ⟨⟨by decide +kernel, by decide +kernel⟩, List.mem_of_getElem? (i := 236) (by decide +kernel), List.mem_of_getElem? (i := 417) (by decide +kernel), List.mem_of_getElem? (i := 418) (by decide +kernel)⟩
theorem lw_p19 : lw_okq (⟨"ProofGate$Prover", "reach", "(IIII)V"⟩, 9) := ⟨⟨by decide +kernel, by decide +kernel⟩, List.mem_of_getElem? (i := 95) (by decide +kernel), List.mem_of_getElem? (i := 430) (by decide +kernel), List.mem_of_getElem? (i := 431) (by decide +kernel)⟩
theorem lw_p20 : lw_okq (⟨"ProofGate$Prover", "findWhatFollows", "()V"⟩, 9) := ⟨⟨by decide +kernel, by decide +kernel⟩, List.mem_of_getElem? (i := 95) (by decide +kernel), List.mem_of_getElem? (i := 434) (by decide +kernel), List.mem_of_getElem? (i := 435) (by decide +kernel)⟩
theorem lw_p21 : lw_okq (⟨"ProofGate$Prover", "findMayByVoice", "()V"⟩, 9) := ⟨⟨by decide +kernel, by decide +kernel⟩, List.mem_of_getElem? (i := 95) (by decide +kernel), List.mem_of_getElem? (i := 438) (by decide +kernel), List.mem_of_getElem? (i := 439) (by decide +kernel)⟩
theorem lw_p22 : lw_okq (⟨"ProofGate$Prover", "isKnown", "(I)Z"⟩, 9) := ⟨⟨by decide +kernel, by decide +kernel⟩, List.mem_of_getElem? (i := 95) (by decide +kernel), List.mem_of_getElem? (i := 442) (by decide +kernel), List.mem_of_getElem? (i := 443) (by decide +kernel)⟩
theorem lw_p23 : lw_okq (⟨"ProofGate$Prover", "handOnMay", "(IIIII)V"⟩, 9) := ⟨⟨by decide +kernel, by decide +kernel⟩, List.mem_of_getElem? (i := 95) (by decide +kernel), List.mem_of_getElem? (i := 446) (by decide +kernel), List.mem_of_getElem? (i := 447) (by decide +kernel)⟩
theorem lw_p24 : lw_okq (⟨"ProofGate$Prover", "findMayByTrust", "()V"⟩, 9) := ⟨⟨by decide +kernel, by decide +kernel⟩, List.mem_of_getElem? (i := 95) (by decide +kernel), List.mem_of_getElem? (i := 450) (by decide +kernel), List.mem_of_getElem? (i := 451) (by decide +kernel)⟩
theorem lw_p25 : lw_okq (⟨"ProofGate$Prover", "findTrustByTrust", "()V"⟩, 9) := ⟨⟨by decide +kernel, by decide +kernel⟩, List.mem_of_getElem? (i := 95) (by decide +kernel), List.mem_of_getElem? (i := 454) (by decide +kernel), List.mem_of_getElem? (i := 455) (by decide +kernel)⟩
theorem lw_p26 : lw_okq (⟨"ProofGate$Prover", "handOnTrust", "(IIIIII)V"⟩, 9) := ⟨⟨by decide +kernel, by decide +kernel⟩, List.mem_of_getElem? (i := 95) (by decide +kernel), List.mem_of_getElem? (i := 458) (by decide +kernel), List.mem_of_getElem? (i := 459) (by decide +kernel)⟩
theorem lw_p27 : lw_okq (⟨"ProofGate$Prover", "findTrustByVoice", "()V"⟩, 9) := ⟨⟨by decide +kernel, by decide +kernel⟩, List.mem_of_getElem? (i := 95) (by decide +kernel), List.mem_of_getElem? (i := 465) (by decide +kernel), List.mem_of_getElem? (i := 466) (by decide +kernel)⟩
theorem lw_p28 : lw_okq (⟨"ProofGate$Prover", "findVoiceByVoice", "()V"⟩, 9) := ⟨⟨by decide +kernel, by decide +kernel⟩, List.mem_of_getElem? (i := 95) (by decide +kernel), List.mem_of_getElem? (i := 469) (by decide +kernel), List.mem_of_getElem? (i := 470) (by decide +kernel)⟩
theorem lw_p29 : lw_okq (⟨"ProofGate$Prover", "handOnVoice", "(II)V"⟩, 9) := ⟨⟨by decide +kernel, by decide +kernel⟩, List.mem_of_getElem? (i := 95) (by decide +kernel), List.mem_of_getElem? (i := 473) (by decide +kernel), List.mem_of_getElem? (i := 474) (by decide +kernel)⟩
theorem lw_p30 : lw_okq (⟨"ProofGate$Prover", "findImplied", "()V"⟩, 9) := ⟨⟨by decide +kernel, by decide +kernel⟩, List.mem_of_getElem? (i := 95) (by decide +kernel), List.mem_of_getElem? (i := 477) (by decide +kernel), List.mem_of_getElem? (i := 478) (by decide +kernel)⟩
theorem lw_p31 : lw_okq (⟨"ProofGate$Prover", "applyImply", "(IIII)V"⟩, 9) := ⟨⟨by decide +kernel, by decide +kernel⟩, List.mem_of_getElem? (i := 95) (by decide +kernel), List.mem_of_getElem? (i := 481) (by decide +kernel), List.mem_of_getElem? (i := 482) (by decide +kernel)⟩
def lw_privs_2 : List (MethodName × Nat) := [(⟨"ProofGate$Credentials", "findValid", "(I)LProofGate$Credential;"⟩, 2), (⟨"ProofGate$Credentials", "find", "(I)LProofGate$Credential;"⟩, 2), (⟨"ProofGate$Credential", "isValidAt", "(I)Z"⟩, 6), (⟨"ProofGate$Prover", "reach", "(IIII)V"⟩, 9), (⟨"ProofGate$Prover", "findWhatFollows", "()V"⟩, 9), (⟨"ProofGate$Prover", "findMayByVoice", "()V"⟩, 9), (⟨"ProofGate$Prover", "isKnown", "(I)Z"⟩, 9), (⟨"ProofGate$Prover", "handOnMay", "(IIIII)V"⟩, 9), (⟨"ProofGate$Prover", "findMayByTrust", "()V"⟩, 9), (⟨"ProofGate$Prover", "findTrustByTrust", "()V"⟩, 9), (⟨"ProofGate$Prover", "handOnTrust", "(IIIIII)V"⟩, 9), (⟨"ProofGate$Prover", "findTrustByVoice", "()V"⟩, 9), (⟨"ProofGate$Prover", "findVoiceByVoice", "()V"⟩, 9), (⟨"ProofGate$Prover", "handOnVoice", "(II)V"⟩, 9), (⟨"ProofGate$Prover", "findImplied", "()V"⟩, 9), (⟨"ProofGate$Prover", "applyImply", "(IIII)V"⟩, 9)]
theorem lw_r2 : ∀ q ∈ lw_privs_2, lw_okq q := List.forall_mem_cons.mpr ⟨lw_p16, List.forall_mem_cons.mpr ⟨lw_p17, List.forall_mem_cons.mpr ⟨lw_p18, List.forall_mem_cons.mpr ⟨lw_p19, List.forall_mem_cons.mpr ⟨lw_p20, List.forall_mem_cons.mpr ⟨lw_p21, List.forall_mem_cons.mpr ⟨lw_p22, List.forall_mem_cons.mpr ⟨lw_p23, List.forall_mem_cons.mpr ⟨lw_p24, List.forall_mem_cons.mpr ⟨lw_p25, List.forall_mem_cons.mpr ⟨lw_p26, List.forall_mem_cons.mpr ⟨lw_p27, List.forall_mem_cons.mpr ⟨lw_p28, List.forall_mem_cons.mpr ⟨lw_p29, List.forall_mem_cons.mpr ⟨lw_p30, List.forall_mem_cons.mpr ⟨lw_p31, fun _ h => absurd h List.not_mem_nil⟩⟩⟩⟩⟩⟩⟩⟩⟩⟩⟩⟩⟩⟩⟩⟩
theorem lw_p32 : lw_okq (⟨"ProofGate$Prover", "writesStep", "(II)Z"⟩, 9) := ⟨⟨by decide +kernel, by decide +kernel⟩, List.mem_of_getElem? (i := 95) (by decide +kernel), List.mem_of_getElem? (i := 486) (by decide +kernel), List.mem_of_getElem? (i := 487) (by decide +kernel)⟩
theorem lw_p33 : lw_okq (⟨"ProofGate$Prover", "written", "()LProofGate$Proof;"⟩, 9) := ⟨⟨by decide +kernel, by decide +kernel⟩, List.mem_of_getElem? (i := 95) (by decide +kernel), List.mem_of_getElem? (i := 492) (by decide +kernel), List.mem_of_getElem? (i := 493) (by decide +kernel)⟩
theorem lw_p34 : lw_okq (⟨"ProofGate$Proof", "become", "(LProofGate$Proof;)V"⟩, 4) := ⟨⟨by decide +kernel, by decide +kernel⟩, List.mem_of_getElem? (i := 76) (by decide +kernel), List.mem_of_getElem? (i := 496) (by decide +kernel), List.mem_of_getElem? (i := 497) (by decide +kernel)⟩
theorem lw_p35 : lw_okq (⟨"ProofGate$Checker", "accepts", "(LProofGate$Proof;IIII)Z"⟩, 2) := ⟨⟨by decide +kernel, by decide +kernel⟩, List.mem_of_getElem? (i := 131) (by decide +kernel), List.mem_of_getElem? (i := 507) (by decide +kernel), List.mem_of_getElem? (i := 508) (by decide +kernel)⟩
theorem lw_p36 : lw_okq (⟨"ProofGate$Checker", "follows", "(IIII)Z"⟩, 2) := ⟨⟨by decide +kernel, by decide +kernel⟩, List.mem_of_getElem? (i := 131) (by decide +kernel), List.mem_of_getElem? (i := 515) (by decide +kernel), List.mem_of_getElem? (i := 516) (by decide +kernel)⟩
theorem lw_p37 : lw_okq (⟨"ProofGate$Fact", "becomeSaidBy", "(LProofGate$Credential;)V"⟩, 6) := ⟨⟨by decide +kernel, by decide +kernel⟩, List.mem_of_getElem? (i := 138) (by decide +kernel), List.mem_of_getElem? (i := 523) (by decide +kernel), List.mem_of_getElem? (i := 524) (by decide +kernel)⟩
theorem lw_p38 : lw_okq (⟨"ProofGate$Fact", "become", "(LProofGate$Fact;)V"⟩, 6) := ⟨⟨by decide +kernel, by decide +kernel⟩, List.mem_of_getElem? (i := 138) (by decide +kernel), List.mem_of_getElem? (i := 530) (by decide +kernel), List.mem_of_getElem? (i := 531) (by decide +kernel)⟩
theorem lw_p39 : lw_okq (⟨"ProofGate$Fact", "isOfSameThing", "(LProofGate$Fact;)Z"⟩, 6) := ⟨⟨by decide +kernel, by decide +kernel⟩, List.mem_of_getElem? (i := 138) (by decide +kernel), List.mem_of_getElem? (i := 540) (by decide +kernel), List.mem_of_getElem? (i := 541) (by decide +kernel)⟩
theorem lw_p40 : lw_okq (⟨"ProofGate$Fact", "isMay", "(IIII)Z"⟩, 6) := ⟨⟨by decide +kernel, by decide +kernel⟩, List.mem_of_getElem? (i := 138) (by decide +kernel), List.mem_of_getElem? (i := 548) (by decide +kernel), List.mem_of_getElem? (i := 549) (by decide +kernel)⟩
theorem lw_p41 : lw_okq (⟨"ProofGate$Fuse", "light", "(I)V"⟩, 1) := ⟨⟨by decide +kernel, by decide +kernel⟩, List.mem_of_getElem? (i := 188) (by decide +kernel), List.mem_of_getElem? (i := 556) (by decide +kernel), List.mem_of_getElem? (i := 557) (by decide +kernel)⟩
theorem lw_p42 : lw_okq (⟨"ProofGate$AuditLog", "count", "()I"⟩, 2) := ⟨⟨by decide +kernel, by decide +kernel⟩, List.mem_of_getElem? (i := 175) (by decide +kernel), List.mem_of_getElem? (i := 578) (by decide +kernel), List.mem_of_getElem? (i := 579) (by decide +kernel)⟩
theorem lw_p43 : lw_okq (⟨"ProofGate$AuditLog", "link", "()I"⟩, 2) := ⟨⟨by decide +kernel, by decide +kernel⟩, List.mem_of_getElem? (i := 175) (by decide +kernel), List.mem_of_getElem? (i := 586) (by decide +kernel), List.mem_of_getElem? (i := 587) (by decide +kernel)⟩
theorem lw_p44 : lw_okq (⟨"ProofGate$Credential", "isWellFormed", "()Z"⟩, 6) := ⟨⟨by decide +kernel, by decide +kernel⟩, List.mem_of_getElem? (i := 236) (by decide +kernel), List.mem_of_getElem? (i := 603) (by decide +kernel), List.mem_of_getElem? (i := 604) (by decide +kernel)⟩
theorem lw_p45 : lw_okq (⟨"java/lang/Throwable", "fillInStackTrace", "(I)Ljava/lang/Throwable;"⟩, 6) := ⟨⟨by decide +kernel, by decide +kernel⟩, List.mem_of_getElem? (i := 647) (by decide +kernel), List.mem_of_getElem? (i := 645) (by decide +kernel), List.mem_of_getElem? (i := 646) (by decide +kernel)⟩
theorem lw_p46 : lw_okq (⟨"ProofGate", "writeRecord", "()V"⟩, 10) := ⟨⟨by decide +kernel, by decide +kernel⟩, List.mem_of_getElem? (i := 28) (by decide +kernel), List.mem_of_getElem? (i := 709) (by decide +kernel), List.mem_of_getElem? (i := 710) (by decide +kernel)⟩
theorem lw_p47 : lw_okq (⟨"ProofGate$Fuse", "burnsThrough", "()Z"⟩, 1) := ⟨⟨by decide +kernel, by decide +kernel⟩, List.mem_of_getElem? (i := 188) (by decide +kernel), List.mem_of_getElem? (i := 713) (by decide +kernel), List.mem_of_getElem? (i := 714) (by decide +kernel)⟩
def lw_privs_3 : List (MethodName × Nat) := [(⟨"ProofGate$Prover", "writesStep", "(II)Z"⟩, 9), (⟨"ProofGate$Prover", "written", "()LProofGate$Proof;"⟩, 9), (⟨"ProofGate$Proof", "become", "(LProofGate$Proof;)V"⟩, 4), (⟨"ProofGate$Checker", "accepts", "(LProofGate$Proof;IIII)Z"⟩, 2), (⟨"ProofGate$Checker", "follows", "(IIII)Z"⟩, 2), (⟨"ProofGate$Fact", "becomeSaidBy", "(LProofGate$Credential;)V"⟩, 6), (⟨"ProofGate$Fact", "become", "(LProofGate$Fact;)V"⟩, 6), (⟨"ProofGate$Fact", "isOfSameThing", "(LProofGate$Fact;)Z"⟩, 6), (⟨"ProofGate$Fact", "isMay", "(IIII)Z"⟩, 6), (⟨"ProofGate$Fuse", "light", "(I)V"⟩, 1), (⟨"ProofGate$AuditLog", "count", "()I"⟩, 2), (⟨"ProofGate$AuditLog", "link", "()I"⟩, 2), (⟨"ProofGate$Credential", "isWellFormed", "()Z"⟩, 6), (⟨"java/lang/Throwable", "fillInStackTrace", "(I)Ljava/lang/Throwable;"⟩, 6), (⟨"ProofGate", "writeRecord", "()V"⟩, 10), (⟨"ProofGate$Fuse", "burnsThrough", "()Z"⟩, 1)]
theorem lw_r3 : ∀ q ∈ lw_privs_3, lw_okq q := List.forall_mem_cons.mpr ⟨lw_p32, List.forall_mem_cons.mpr ⟨lw_p33, List.forall_mem_cons.mpr ⟨lw_p34, List.forall_mem_cons.mpr ⟨lw_p35, List.forall_mem_cons.mpr ⟨lw_p36, List.forall_mem_cons.mpr ⟨lw_p37, List.forall_mem_cons.mpr ⟨lw_p38, List.forall_mem_cons.mpr ⟨lw_p39, List.forall_mem_cons.mpr ⟨lw_p40, List.forall_mem_cons.mpr ⟨lw_p41, List.forall_mem_cons.mpr ⟨lw_p42, List.forall_mem_cons.mpr ⟨lw_p43, List.forall_mem_cons.mpr ⟨lw_p44, List.forall_mem_cons.mpr ⟨lw_p45, List.forall_mem_cons.mpr ⟨lw_p46, List.forall_mem_cons.mpr ⟨lw_p47, fun _ h => absurd h List.not_mem_nil⟩⟩⟩⟩⟩⟩⟩⟩⟩⟩⟩⟩⟩⟩⟩⟩
theorem lw_p48 : lw_okq (⟨"ProofGate$Credentials", "take", "(LProofGate$Credential;)I"⟩, 2) := ⟨⟨by decide +kernel, by decide +kernel⟩, List.mem_of_getElem? (i := 36) (by decide +kernel), List.mem_of_getElem? (i := 718) (by decide +kernel), List.mem_of_getElem? (i := 719) (by decide +kernel)⟩
theorem lw_p49 : lw_okq (⟨"java/util/ArrayList", "add", "(Ljava/lang/Object;[Ljava/lang/Object;I)V"⟩, 3) := ⟨⟨by decide +kernel, by decide +kernel⟩, List.mem_of_getElem? (i := 42) (by decide +kernel), List.mem_of_getElem? (i := 726) (by decide +kernel), List.mem_of_getElem? (i := 727) (by decide +kernel)⟩
theorem lw_p50 : lw_okq (⟨"java/util/ArrayList", "grow", "()[Ljava/lang/Object;"⟩, 3) := ⟨⟨by decide +kernel, by decide +kernel⟩, List.mem_of_getElem? (i := 42) (by decide +kernel), List.mem_of_getElem? (i := 730) (by decide +kernel), List.mem_of_getElem? (i := 731) (by decide +kernel)⟩
theorem lw_p51 : lw_okq (⟨"java/util/ArrayList", "grow", "(I)[Ljava/lang/Object;"⟩, 3) := ⟨⟨by decide +kernel, by decide +kernel⟩, List.mem_of_getElem? (i := 42) (by decide +kernel), List.mem_of_getElem? (i := 734) (by decide +kernel), List.mem_of_getElem? (i := 735) (by decide +kernel)⟩
theorem lw_p52 : lw_okq (⟨"ProofGate", "useUpDraft", "(III)I"⟩, 10) := ⟨⟨by decide +kernel, by decide +kernel⟩, List.mem_of_getElem? (i := 28) (by decide +kernel), List.mem_of_getElem? (i := 815) (by decide +kernel), List.mem_of_getElem? (i := 816) (by decide +kernel)⟩
theorem lw_p53 : lw_okq (⟨"ProofGate$AuditLog", "addGrant", "(IIII)V"⟩, 2) := ⟨⟨by decide +kernel, by decide +kernel⟩, List.mem_of_getElem? (i := 175) (by decide +kernel), List.mem_of_getElem? (i := 820) (by decide +kernel), List.mem_of_getElem? (i := 821) (by decide +kernel)⟩
theorem lw_p54 : lw_okq (⟨"ProofGate", "carryOut", "(IIII)I"⟩, 10) := ⟨⟨by decide +kernel, by decide +kernel⟩, List.mem_of_getElem? (i := 28) (by decide +kernel), List.mem_of_getElem? (i := 824) (by decide +kernel), List.mem_of_getElem? (i := 825) (by decide +kernel)⟩
theorem lw_p55 : lw_okq (⟨"ProofGateModel", "isFit", "(I)Z"⟩, 38) := ⟨⟨by decide +kernel, by decide +kernel⟩, List.mem_of_getElem? (i := 828) (by decide +kernel), List.mem_of_getElem? (i := 981) (by decide +kernel), List.mem_of_getElem? (i := 982) (by decide +kernel)⟩
theorem lw_p56 : lw_okq (⟨"ProofGateModel", "fails", "(I)I"⟩, 38) := ⟨⟨by decide +kernel, by decide +kernel⟩, List.mem_of_getElem? (i := 828) (by decide +kernel), List.mem_of_getElem? (i := 988) (by decide +kernel), List.mem_of_getElem? (i := 989) (by decide +kernel)⟩
theorem lw_p57 : lw_okq (⟨"ProofGateModel", "recorded", "()Z"⟩, 38) := ⟨⟨by decide +kernel, by decide +kernel⟩, List.mem_of_getElem? (i := 828) (by decide +kernel), List.mem_of_getElem? (i := 993) (by decide +kernel), List.mem_of_getElem? (i := 994) (by decide +kernel)⟩
theorem lw_p58 : lw_okq (⟨"ProofGateModel", "isGoal", "(III)Z"⟩, 38) := ⟨⟨by decide +kernel, by decide +kernel⟩, List.mem_of_getElem? (i := 828) (by decide +kernel), List.mem_of_getElem? (i := 1021) (by decide +kernel), List.mem_of_getElem? (i := 1022) (by decide +kernel)⟩
theorem lw_p59 : lw_okq (⟨"ProofGateModel", "sayer", "(II)I"⟩, 38) := ⟨⟨by decide +kernel, by decide +kernel⟩, List.mem_of_getElem? (i := 828) (by decide +kernel), List.mem_of_getElem? (i := 1025) (by decide +kernel), List.mem_of_getElem? (i := 1026) (by decide +kernel)⟩
theorem lw_p60 : lw_okq (⟨"ProofGateModel", "proof", "(II)I"⟩, 38) := ⟨⟨by decide +kernel, by decide +kernel⟩, List.mem_of_getElem? (i := 828) (by decide +kernel), List.mem_of_getElem? (i := 1032) (by decide +kernel), List.mem_of_getElem? (i := 1033) (by decide +kernel)⟩
theorem lw_p61 : lw_okq (⟨"ProofGateModel", "said", "()V"⟩, 38) := ⟨⟨by decide +kernel, by decide +kernel⟩, List.mem_of_getElem? (i := 828) (by decide +kernel), List.mem_of_getElem? (i := 1036) (by decide +kernel), List.mem_of_getElem? (i := 1037) (by decide +kernel)⟩
theorem lw_p62 : lw_okq (⟨"ProofGateModel", "holds", "(I)Z"⟩, 38) := ⟨⟨by decide +kernel, by decide +kernel⟩, List.mem_of_getElem? (i := 828) (by decide +kernel), List.mem_of_getElem? (i := 1040) (by decide +kernel), List.mem_of_getElem? (i := 1041) (by decide +kernel)⟩
theorem lw_p63 : lw_okq (⟨"ProofGateModel", "finds", "(IIII)Z"⟩, 38) := ⟨⟨by decide +kernel, by decide +kernel⟩, List.mem_of_getElem? (i := 828) (by decide +kernel), List.mem_of_getElem? (i := 1050) (by decide +kernel), List.mem_of_getElem? (i := 1051) (by decide +kernel)⟩
def lw_privs_4 : List (MethodName × Nat) := [(⟨"ProofGate$Credentials", "take", "(LProofGate$Credential;)I"⟩, 2), (⟨"java/util/ArrayList", "add", "(Ljava/lang/Object;[Ljava/lang/Object;I)V"⟩, 3), (⟨"java/util/ArrayList", "grow", "()[Ljava/lang/Object;"⟩, 3), (⟨"java/util/ArrayList", "grow", "(I)[Ljava/lang/Object;"⟩, 3), (⟨"ProofGate", "useUpDraft", "(III)I"⟩, 10), (⟨"ProofGate$AuditLog", "addGrant", "(IIII)V"⟩, 2), (⟨"ProofGate", "carryOut", "(IIII)I"⟩, 10), (⟨"ProofGateModel", "isFit", "(I)Z"⟩, 38), (⟨"ProofGateModel", "fails", "(I)I"⟩, 38), (⟨"ProofGateModel", "recorded", "()Z"⟩, 38), (⟨"ProofGateModel", "isGoal", "(III)Z"⟩, 38), (⟨"ProofGateModel", "sayer", "(II)I"⟩, 38), (⟨"ProofGateModel", "proof", "(II)I"⟩, 38), (⟨"ProofGateModel", "said", "()V"⟩, 38), (⟨"ProofGateModel", "holds", "(I)Z"⟩, 38), (⟨"ProofGateModel", "finds", "(IIII)Z"⟩, 38)]
theorem lw_r4 : ∀ q ∈ lw_privs_4, lw_okq q := List.forall_mem_cons.mpr ⟨lw_p48, List.forall_mem_cons.mpr ⟨lw_p49, List.forall_mem_cons.mpr ⟨lw_p50, List.forall_mem_cons.mpr ⟨lw_p51, List.forall_mem_cons.mpr ⟨lw_p52, List.forall_mem_cons.mpr ⟨lw_p53, List.forall_mem_cons.mpr ⟨lw_p54, List.forall_mem_cons.mpr ⟨lw_p55, List.forall_mem_cons.mpr ⟨lw_p56, List.forall_mem_cons.mpr ⟨lw_p57, List.forall_mem_cons.mpr ⟨lw_p58, List.forall_mem_cons.mpr ⟨lw_p59, List.forall_mem_cons.mpr ⟨lw_p60, List.forall_mem_cons.mpr ⟨lw_p61, List.forall_mem_cons.mpr ⟨lw_p62, List.forall_mem_cons.mpr ⟨lw_p63, fun _ h => absurd h List.not_mem_nil⟩⟩⟩⟩⟩⟩⟩⟩⟩⟩⟩⟩⟩⟩⟩⟩
theorem lw_p64 : lw_okq (⟨"ProofGateModel", "goesOn", "()Z"⟩, 38) := ⟨⟨by decide +kernel, by decide +kernel⟩, List.mem_of_getElem? (i := 828) (by decide +kernel), List.mem_of_getElem? (i := 1054) (by decide +kernel), List.mem_of_getElem? (i := 1055) (by decide +kernel)⟩
theorem lw_p65 : lw_okq (⟨"ProofGateModel", "newMay", "(III)Z"⟩, 38) := ⟨⟨by decide +kernel, by decide +kernel⟩, List.mem_of_getElem? (i := 828) (by decide +kernel), List.mem_of_getElem? (i := 1058) (by decide +kernel), List.mem_of_getElem? (i := 1059) (by decide +kernel)⟩
theorem lw_p66 : lw_okq (⟨"ProofGateModel", "had", "(I)Z"⟩, 38) := ⟨⟨by decide +kernel, by decide +kernel⟩, List.mem_of_getElem? (i := 828) (by decide +kernel), List.mem_of_getElem? (i := 1062) (by decide +kernel), List.mem_of_getElem? (i := 1063) (by decide +kernel)⟩
theorem lw_p67 : lw_okq (⟨"ProofGateModel", "newTrust", "(IIII)Z"⟩, 38) := ⟨⟨by decide +kernel, by decide +kernel⟩, List.mem_of_getElem? (i := 828) (by decide +kernel), List.mem_of_getElem? (i := 1066) (by decide +kernel), List.mem_of_getElem? (i := 1067) (by decide +kernel)⟩
theorem lw_p68 : lw_okq (⟨"ProofGateModel", "newVoice", "(II)Z"⟩, 38) := ⟨⟨by decide +kernel, by decide +kernel⟩, List.mem_of_getElem? (i := 828) (by decide +kernel), List.mem_of_getElem? (i := 1070) (by decide +kernel), List.mem_of_getElem? (i := 1071) (by decide +kernel)⟩
theorem lw_p69 : lw_okq (⟨"ProofGateModel", "needed", "(I)I"⟩, 38) := ⟨⟨by decide +kernel, by decide +kernel⟩, List.mem_of_getElem? (i := 828) (by decide +kernel), List.mem_of_getElem? (i := 1074) (by decide +kernel), List.mem_of_getElem? (i := 1075) (by decide +kernel)⟩
theorem lw_p70 : lw_okq (⟨"ProofGateModel", "note", "(I)V"⟩, 38) := ⟨⟨by decide +kernel, by decide +kernel⟩, List.mem_of_getElem? (i := 828) (by decide +kernel), List.mem_of_getElem? (i := 1078) (by decide +kernel), List.mem_of_getElem? (i := 1079) (by decide +kernel)⟩
theorem lw_p71 : lw_okq (⟨"ProofGateModel", "proves", "(IIII)Z"⟩, 38) := ⟨⟨by decide +kernel, by decide +kernel⟩, List.mem_of_getElem? (i := 828) (by decide +kernel), List.mem_of_getElem? (i := 1086) (by decide +kernel), List.mem_of_getElem? (i := 1087) (by decide +kernel)⟩
theorem lw_p72 : lw_okq (⟨"ProofGateModel", "proved", "(I)I"⟩, 38) := ⟨⟨by decide +kernel, by decide +kernel⟩, List.mem_of_getElem? (i := 828) (by decide +kernel), List.mem_of_getElem? (i := 1090) (by decide +kernel), List.mem_of_getElem? (i := 1091) (by decide +kernel)⟩
theorem lw_p73 : lw_okq (⟨"ProofGateModel", "spoken", "(I)I"⟩, 38) := ⟨⟨by decide +kernel, by decide +kernel⟩, List.mem_of_getElem? (i := 828) (by decide +kernel), List.mem_of_getElem? (i := 1094) (by decide +kernel), List.mem_of_getElem? (i := 1095) (by decide +kernel)⟩
theorem lw_p74 : lw_okq (⟨"ProofGateModel", "stepFact", "(II)I"⟩, 38) := ⟨⟨by decide +kernel, by decide +kernel⟩, List.mem_of_getElem? (i := 828) (by decide +kernel), List.mem_of_getElem? (i := 1101) (by decide +kernel), List.mem_of_getElem? (i := 1102) (by decide +kernel)⟩
theorem lw_p75 : lw_okq (⟨"ProofGateModel", "done", "(IIII)I"⟩, 38) := ⟨⟨by decide +kernel, by decide +kernel⟩, List.mem_of_getElem? (i := 828) (by decide +kernel), List.mem_of_getElem? (i := 1112) (by decide +kernel), List.mem_of_getElem? (i := 1113) (by decide +kernel)⟩
def lw_privs_5 : List (MethodName × Nat) := [(⟨"ProofGateModel", "goesOn", "()Z"⟩, 38), (⟨"ProofGateModel", "newMay", "(III)Z"⟩, 38), (⟨"ProofGateModel", "had", "(I)Z"⟩, 38), (⟨"ProofGateModel", "newTrust", "(IIII)Z"⟩, 38), (⟨"ProofGateModel", "newVoice", "(II)Z"⟩, 38), (⟨"ProofGateModel", "needed", "(I)I"⟩, 38), (⟨"ProofGateModel", "note", "(I)V"⟩, 38), (⟨"ProofGateModel", "proves", "(IIII)Z"⟩, 38), (⟨"ProofGateModel", "proved", "(I)I"⟩, 38), (⟨"ProofGateModel", "spoken", "(I)I"⟩, 38), (⟨"ProofGateModel", "stepFact", "(II)I"⟩, 38), (⟨"ProofGateModel", "done", "(IIII)I"⟩, 38)]
theorem lw_r5 : ∀ q ∈ lw_privs_5, lw_okq q := List.forall_mem_cons.mpr ⟨lw_p64, List.forall_mem_cons.mpr ⟨lw_p65, List.forall_mem_cons.mpr ⟨lw_p66, List.forall_mem_cons.mpr ⟨lw_p67, List.forall_mem_cons.mpr ⟨lw_p68, List.forall_mem_cons.mpr ⟨lw_p69, List.forall_mem_cons.mpr ⟨lw_p70, List.forall_mem_cons.mpr ⟨lw_p71, List.forall_mem_cons.mpr ⟨lw_p72, List.forall_mem_cons.mpr ⟨lw_p73, List.forall_mem_cons.mpr ⟨lw_p74, List.forall_mem_cons.mpr ⟨lw_p75, fun _ h => absurd h List.not_mem_nil⟩⟩⟩⟩⟩⟩⟩⟩⟩⟩⟩⟩
def lw_privs : List (MethodName × Nat) := lw_privs_1 ++ (lw_privs_2 ++ (lw_privs_3 ++ (lw_privs_4 ++ (lw_privs_5))))
def lw_tbl : List Cond := k2_sels lw_privs ++ tables_1
theorem lw_privs_ok : ∀ q ∈ lw_privs, lw_okq q := by
  show ∀ q ∈ lw_privs_1 ++ (lw_privs_2 ++ (lw_privs_3 ++ (lw_privs_4 ++ (lw_privs_5)))), lw_okq q
  exact List.forall_mem_append.mpr ⟨lw_r1, List.forall_mem_append.mpr ⟨lw_r2, List.forall_mem_append.mpr ⟨lw_r3, List.forall_mem_append.mpr ⟨lw_r4, lw_r5⟩⟩⟩⟩
end
section
/-! names: by program out of the Statement and javap; the tables' words: TB (good), NB (across a nest, casts) -/
def TB : List Cond := lw_tbl.filter goodWord
theorem TB_good : ∀ w ∈ TB, goodWord w = true := fun w h => (List.mem_filter.mp h).2
def nestWord : Cond → Bool
  | .fieldLinkNest .. => true
  | .methodLinkNest .. => true
  | .castable .. => true
  | _ => false
def NB : List Cond := lw_tbl.filter nestWord
theorem NB_warm (w : Cond) (hw : w ∈ NB) {s U : State} (hW : s.WarmedH U.vm) (h : va_Nw w s) : va_Nw w U := by
  have hn := (List.mem_filter.mp hw).2
  cases w <;> first | exact va_Nw.warmF hW h | exact va_Nw.warmM hW h | exact va_Nw.warmC hW h | (exact absurd hn (by simp [nestWord]))
theorem tb1 {w : Cond} (i : Nat) (h : tables_1_1[i]? = some w) (g : goodWord w = true) : w ∈ TB := List.mem_filter.mpr ⟨List.mem_append_right _ (show w ∈ tables_1 from (List.mem_append_left _ (List.mem_of_getElem? h))), g⟩
theorem nb1 {w : Cond} (i : Nat) (h : tables_1_1[i]? = some w) (g : nestWord w = true) : w ∈ NB := List.mem_filter.mpr ⟨List.mem_append_right _ (show w ∈ tables_1 from (List.mem_append_left _ (List.mem_of_getElem? h))), g⟩
theorem tb2 {w : Cond} (i : Nat) (h : tables_1_2[i]? = some w) (g : goodWord w = true) : w ∈ TB := List.mem_filter.mpr ⟨List.mem_append_right _ (show w ∈ tables_1 from (List.mem_append_right _ (List.mem_append_left _ (List.mem_of_getElem? h)))), g⟩
theorem nb2 {w : Cond} (i : Nat) (h : tables_1_2[i]? = some w) (g : nestWord w = true) : w ∈ NB := List.mem_filter.mpr ⟨List.mem_append_right _ (show w ∈ tables_1 from (List.mem_append_right _ (List.mem_append_left _ (List.mem_of_getElem? h)))), g⟩
theorem tb3 {w : Cond} (i : Nat) (h : tables_1_3[i]? = some w) (g : goodWord w = true) : w ∈ TB := List.mem_filter.mpr ⟨List.mem_append_right _ (show w ∈ tables_1 from (List.mem_append_right _ (List.mem_append_right _ (List.mem_append_left _ (List.mem_of_getElem? h))))), g⟩
theorem nb3 {w : Cond} (i : Nat) (h : tables_1_3[i]? = some w) (g : nestWord w = true) : w ∈ NB := List.mem_filter.mpr ⟨List.mem_append_right _ (show w ∈ tables_1 from (List.mem_append_right _ (List.mem_append_right _ (List.mem_append_left _ (List.mem_of_getElem? h))))), g⟩
theorem tb4 {w : Cond} (i : Nat) (h : tables_1_4[i]? = some w) (g : goodWord w = true) : w ∈ TB := List.mem_filter.mpr ⟨List.mem_append_right _ (show w ∈ tables_1 from (List.mem_append_right _ (List.mem_append_right _ (List.mem_append_right _ (List.mem_append_left _ (List.mem_of_getElem? h)))))), g⟩
theorem nb4 {w : Cond} (i : Nat) (h : tables_1_4[i]? = some w) (g : nestWord w = true) : w ∈ NB := List.mem_filter.mpr ⟨List.mem_append_right _ (show w ∈ tables_1 from (List.mem_append_right _ (List.mem_append_right _ (List.mem_append_right _ (List.mem_append_left _ (List.mem_of_getElem? h)))))), g⟩
theorem tb5 {w : Cond} (i : Nat) (h : tables_1_5[i]? = some w) (g : goodWord w = true) : w ∈ TB := List.mem_filter.mpr ⟨List.mem_append_right _ (show w ∈ tables_1 from (List.mem_append_right _ (List.mem_append_right _ (List.mem_append_right _ (List.mem_append_right _ (List.mem_of_getElem? h)))))), g⟩
theorem nb5 {w : Cond} (i : Nat) (h : tables_1_5[i]? = some w) (g : nestWord w = true) : w ∈ NB := List.mem_filter.mpr ⟨List.mem_append_right _ (show w ∈ tables_1 from (List.mem_append_right _ (List.mem_append_right _ (List.mem_append_right _ (List.mem_append_right _ (List.mem_of_getElem? h)))))), g⟩
theorem sp1 {q : MethodName × Nat} (i : Nat) (h : lw_privs_1[i]? = some q) : Cond.selects q.1.cls q.1 q.1 ∈ TB := List.mem_filter.mpr ⟨List.mem_append_left _ (List.mem_map.mpr ⟨q, show q ∈ lw_privs from (List.mem_append_left _ (List.mem_of_getElem? h)), rfl⟩), rfl⟩
theorem sp2 {q : MethodName × Nat} (i : Nat) (h : lw_privs_2[i]? = some q) : Cond.selects q.1.cls q.1 q.1 ∈ TB := List.mem_filter.mpr ⟨List.mem_append_left _ (List.mem_map.mpr ⟨q, show q ∈ lw_privs from (List.mem_append_right _ (List.mem_append_left _ (List.mem_of_getElem? h))), rfl⟩), rfl⟩
theorem sp3 {q : MethodName × Nat} (i : Nat) (h : lw_privs_3[i]? = some q) : Cond.selects q.1.cls q.1 q.1 ∈ TB := List.mem_filter.mpr ⟨List.mem_append_left _ (List.mem_map.mpr ⟨q, show q ∈ lw_privs from (List.mem_append_right _ (List.mem_append_right _ (List.mem_append_left _ (List.mem_of_getElem? h)))), rfl⟩), rfl⟩
theorem sp4 {q : MethodName × Nat} (i : Nat) (h : lw_privs_4[i]? = some q) : Cond.selects q.1.cls q.1 q.1 ∈ TB := List.mem_filter.mpr ⟨List.mem_append_left _ (List.mem_map.mpr ⟨q, show q ∈ lw_privs from (List.mem_append_right _ (List.mem_append_right _ (List.mem_append_right _ (List.mem_append_left _ (List.mem_of_getElem? h))))), rfl⟩), rfl⟩
theorem sp5 {q : MethodName × Nat} (i : Nat) (h : lw_privs_5[i]? = some q) : Cond.selects q.1.cls q.1 q.1 ∈ TB := List.mem_filter.mpr ⟨List.mem_append_left _ (List.mem_map.mpr ⟨q, show q ∈ lw_privs from (List.mem_append_right _ (List.mem_append_right _ (List.mem_append_right _ (List.mem_append_right _ (List.mem_of_getElem? h))))), rfl⟩), rfl⟩
abbrev b_Ga_init : ByteArray := prog_1_method_1_code
def y_Ga_init : MethodName := ⟨"ProofGate", "<init>", "(I)V"⟩
abbrev b_Jo_init : ByteArray := object_method_1_code
def y_Jo_init : MethodName := ⟨"java/lang/Object", "<init>", "()V"⟩
abbrev b_Cs_init : ByteArray := prog_5_method_1_code
def y_Cs_init : MethodName := ⟨"ProofGate$Credentials", "<init>", "()V"⟩
abbrev b_AL_init : ByteArray := prog_26_method_2_code
def y_AL_init : MethodName := ⟨"java/util/ArrayList", "<init>", "()V"⟩
abbrev b_Ab_init : ByteArray := prog_25_method_1_code
def y_Ab_init : MethodName := ⟨"java/util/AbstractList", "<init>", "()V"⟩
abbrev b_Ac_init : ByteArray := prog_24_method_1_code
def y_Ac_init : MethodName := ⟨"java/util/AbstractCollection", "<init>", "()V"⟩
abbrev b_Pf_init : ByteArray := prog_8_method_1_code
def y_Pf_init : MethodName := ⟨"ProofGate$Proof", "<init>", "()V"⟩
abbrev b_Pv_init : ByteArray := prog_9_method_1_code
def y_Pv_init : MethodName := ⟨"ProofGate$Prover", "<init>", "(LProofGate$Credentials;)V"⟩
abbrev b_Ck_init : ByteArray := prog_3_method_1_code
def y_Ck_init : MethodName := ⟨"ProofGate$Checker", "<init>", "(LProofGate$Credentials;)V"⟩
abbrev b_Fa_init : ByteArray := prog_6_method_1_code
def y_Fa_init : MethodName := ⟨"ProofGate$Fact", "<init>", "()V"⟩
abbrev b_Lg_init : ByteArray := prog_2_method_1_code
def y_Lg_init : MethodName := ⟨"ProofGate$AuditLog", "<init>", "()V"⟩
abbrev b_Fu_init : ByteArray := prog_7_method_1_code
def y_Fu_init : MethodName := ⟨"ProofGate$Fuse", "<init>", "()V"⟩
abbrev b_Ar_fill : ByteArray := prog_27_method_103_code
def y_Ar_fill : MethodName := ⟨"java/util/Arrays", "fill", "([II)V"⟩
abbrev b_Ga_seal : ByteArray := prog_1_method_2_code
def y_Ga_seal : MethodName := ⟨"ProofGate", "seal", "(IIIIIIII)I"⟩
abbrev b_Cr_init : ByteArray := prog_4_method_1_code
def y_Cr_init : MethodName := ⟨"ProofGate$Credential", "<init>", "(II[III)V"⟩
abbrev b_Cr_isKind : ByteArray := prog_4_method_2_code
def y_Cr_isKind : MethodName := ⟨"ProofGate$Credential", "isKind", "(I)Z"⟩
abbrev b_Cr_limit : ByteArray := prog_4_method_3_code
def y_Cr_limit : MethodName := ⟨"ProofGate$Credential", "limit", "(II)I"⟩
abbrev b_Ga_sealOf : ByteArray := prog_1_method_20_code
def y_Ga_sealOf : MethodName := ⟨"ProofGate", "sealOf", "(LProofGate$Credential;)I"⟩
abbrev b_Cr_mark : ByteArray := prog_4_method_6_code
def y_Cr_mark : MethodName := ⟨"ProofGate$Credential", "mark", "()I"⟩
abbrev b_Cr_mix : ByteArray := prog_4_method_7_code
def y_Cr_mix : MethodName := ⟨"ProofGate$Credential", "mix", "(II)I"⟩
abbrev b_Ga_set : ByteArray := prog_1_method_4_code
def y_Ga_set : MethodName := ⟨"ProofGate", "set", "(IIII)V"⟩
abbrev b_Ga_pass : ByteArray := prog_1_method_6_code
def y_Ga_pass : MethodName := ⟨"ProofGate", "pass", "(I)I"⟩
abbrev b_Cs_letTimeGoOn : ByteArray := prog_5_method_4_code
def y_Cs_letTimeGoOn : MethodName := ⟨"ProofGate$Credentials", "letTimeGoOn", "(I)I"⟩
abbrev b_Ga_step : ByteArray := prog_1_method_7_code
def y_Ga_step : MethodName := ⟨"ProofGate", "step", "(III)I"⟩
abbrev b_Pf_append : ByteArray := prog_8_method_7_code
def y_Pf_append : MethodName := ⟨"ProofGate$Proof", "append", "(III)I"⟩
abbrev b_Ga_clear : ByteArray := prog_1_method_8_code
def y_Ga_clear : MethodName := ⟨"ProofGate", "clear", "()I"⟩
abbrev b_Pf_makeEmpty : ByteArray := prog_8_method_8_code
def y_Pf_makeEmpty : MethodName := ⟨"ProofGate$Proof", "makeEmpty", "()I"⟩
abbrev b_Ga_steps : ByteArray := prog_1_method_9_code
def y_Ga_steps : MethodName := ⟨"ProofGate", "steps", "()I"⟩
abbrev b_Pf_length : ByteArray := prog_8_method_2_code
def y_Pf_length : MethodName := ⟨"ProofGate$Proof", "length", "()I"⟩
abbrev b_Ga_stepAt : ByteArray := prog_1_method_10_code
def y_Ga_stepAt : MethodName := ⟨"ProofGate", "stepAt", "(II)I"⟩
abbrev b_Pf_hasStep : ByteArray := prog_8_method_3_code
def y_Pf_hasStep : MethodName := ⟨"ProofGate$Proof", "hasStep", "(I)Z"⟩
abbrev b_Pf_ruleAt : ByteArray := prog_8_method_4_code
def y_Pf_ruleAt : MethodName := ⟨"ProofGate$Proof", "ruleAt", "(I)I"⟩
abbrev b_Pf_xAt : ByteArray := prog_8_method_5_code
def y_Pf_xAt : MethodName := ⟨"ProofGate$Proof", "xAt", "(I)I"⟩
abbrev b_Pf_yAt : ByteArray := prog_8_method_6_code
def y_Pf_yAt : MethodName := ⟨"ProofGate$Proof", "yAt", "(I)I"⟩
abbrev b_Ga_prove : ByteArray := prog_1_method_11_code
def y_Ga_prove : MethodName := ⟨"ProofGate", "prove", "(III)I"⟩
abbrev b_Ga_isNamed : ByteArray := prog_1_method_26_code
def y_Ga_isNamed : MethodName := ⟨"ProofGate", "isNamed", "(III)Z"⟩
abbrev b_Ga_isPrincipal : ByteArray := prog_1_method_27_code
def y_Ga_isPrincipal : MethodName := ⟨"ProofGate", "isPrincipal", "(I)Z"⟩
abbrev b_Ga_isObject : ByteArray := prog_1_method_28_code
def y_Ga_isObject : MethodName := ⟨"ProofGate", "isObject", "(I)Z"⟩
abbrev b_Ga_isOpenTo : ByteArray := prog_1_method_25_code
def y_Ga_isOpenTo : MethodName := ⟨"ProofGate", "isOpenTo", "(II)Z"⟩
abbrev b_Ga_sayerOfGoal : ByteArray := prog_1_method_24_code
def y_Ga_sayerOfGoal : MethodName := ⟨"ProofGate", "sayerOfGoal", "(II)I"⟩
abbrev b_Pv_writeProof : ByteArray := prog_9_method_3_code
def y_Pv_writeProof : MethodName := ⟨"ProofGate$Prover", "writeProof", "(IIII)I"⟩
abbrev b_Pv_may : ByteArray := prog_9_method_22_code
def y_Pv_may : MethodName := ⟨"ProofGate$Prover", "may", "(III)I"⟩
abbrev b_Pv_finds : ByteArray := prog_9_method_4_code
def y_Pv_finds : MethodName := ⟨"ProofGate$Prover", "finds", "(II)Z"⟩
abbrev b_Pv_findWhatIsSaid : ByteArray := prog_9_method_6_code
def y_Pv_findWhatIsSaid : MethodName := ⟨"ProofGate$Prover", "findWhatIsSaid", "(I)V"⟩
abbrev b_Cs_count : ByteArray := prog_5_method_2_code
def y_Cs_count : MethodName := ⟨"ProofGate$Credentials", "count", "()I"⟩
abbrev b_AL_size : ByteArray := prog_26_method_8_code
def y_AL_size : MethodName := ⟨"java/util/ArrayList", "size", "()I"⟩
abbrev b_Cs_findValid : ByteArray := prog_5_method_6_code
def y_Cs_findValid : MethodName := ⟨"ProofGate$Credentials", "findValid", "(I)LProofGate$Credential;"⟩
abbrev b_Cs_find : ByteArray := prog_5_method_5_code
def y_Cs_find : MethodName := ⟨"ProofGate$Credentials", "find", "(I)LProofGate$Credential;"⟩
abbrev b_AL_get : ByteArray := prog_26_method_20_code
def y_AL_get : MethodName := ⟨"java/util/ArrayList", "get", "(I)Ljava/lang/Object;"⟩
abbrev b_Ob_checkIndex : ByteArray := prog_31_method_17_code
def y_Ob_checkIndex : MethodName := ⟨"java/util/Objects", "checkIndex", "(II)I"⟩
abbrev b_Pr_checkIndex : ByteArray := prog_35_method_11_code
def y_Pr_checkIndex : MethodName := ⟨"jdk/internal/util/Preconditions", "checkIndex", "(IILjava/util/function/BiFunction;)I"⟩
abbrev b_AL_elementData : ByteArray := prog_26_method_18_code
def y_AL_elementData : MethodName := ⟨"java/util/ArrayList", "elementData", "(I)Ljava/lang/Object;"⟩
abbrev b_Cr_isValidAt : ByteArray := prog_4_method_5_code
def y_Cr_isValidAt : MethodName := ⟨"ProofGate$Credential", "isValidAt", "(I)Z"⟩
abbrev b_Pv_factSaidBy : ByteArray := prog_9_method_7_code
def y_Pv_factSaidBy : MethodName := ⟨"ProofGate$Prover", "factSaidBy", "(LProofGate$Credential;I)I"⟩
abbrev b_Pv_speaks : ByteArray := prog_9_method_21_code
def y_Pv_speaks : MethodName := ⟨"ProofGate$Prover", "speaks", "(II)I"⟩
abbrev b_Pv_trusts : ByteArray := prog_9_method_23_code
def y_Pv_trusts : MethodName := ⟨"ProofGate$Prover", "trusts", "(IIII)I"⟩
abbrev b_Pv_reach : ByteArray := prog_9_method_18_code
def y_Pv_reach : MethodName := ⟨"ProofGate$Prover", "reach", "(IIII)V"⟩
abbrev b_Pv_findWhatFollows : ByteArray := prog_9_method_5_code
def y_Pv_findWhatFollows : MethodName := ⟨"ProofGate$Prover", "findWhatFollows", "()V"⟩
abbrev b_Pv_findMayByVoice : ByteArray := prog_9_method_8_code
def y_Pv_findMayByVoice : MethodName := ⟨"ProofGate$Prover", "findMayByVoice", "()V"⟩
abbrev b_Pv_isKnown : ByteArray := prog_9_method_19_code
def y_Pv_isKnown : MethodName := ⟨"ProofGate$Prover", "isKnown", "(I)Z"⟩
abbrev b_Pv_handOnMay : ByteArray := prog_9_method_10_code
def y_Pv_handOnMay : MethodName := ⟨"ProofGate$Prover", "handOnMay", "(IIIII)V"⟩
abbrev b_Pv_findMayByTrust : ByteArray := prog_9_method_9_code
def y_Pv_findMayByTrust : MethodName := ⟨"ProofGate$Prover", "findMayByTrust", "()V"⟩
abbrev b_Pv_findTrustByTrust : ByteArray := prog_9_method_11_code
def y_Pv_findTrustByTrust : MethodName := ⟨"ProofGate$Prover", "findTrustByTrust", "()V"⟩
abbrev b_Pv_handOnTrust : ByteArray := prog_9_method_13_code
def y_Pv_handOnTrust : MethodName := ⟨"ProofGate$Prover", "handOnTrust", "(IIIIII)V"⟩
abbrev b_Ma_min : ByteArray := prog_18_method_69_code
def y_Ma_min : MethodName := ⟨"java/lang/Math", "min", "(II)I"⟩
abbrev b_Pv_findTrustByVoice : ByteArray := prog_9_method_12_code
def y_Pv_findTrustByVoice : MethodName := ⟨"ProofGate$Prover", "findTrustByVoice", "()V"⟩
abbrev b_Pv_findVoiceByVoice : ByteArray := prog_9_method_14_code
def y_Pv_findVoiceByVoice : MethodName := ⟨"ProofGate$Prover", "findVoiceByVoice", "()V"⟩
abbrev b_Pv_handOnVoice : ByteArray := prog_9_method_15_code
def y_Pv_handOnVoice : MethodName := ⟨"ProofGate$Prover", "handOnVoice", "(II)V"⟩
abbrev b_Pv_findImplied : ByteArray := prog_9_method_16_code
def y_Pv_findImplied : MethodName := ⟨"ProofGate$Prover", "findImplied", "()V"⟩
abbrev b_Pv_applyImply : ByteArray := prog_9_method_17_code
def y_Pv_applyImply : MethodName := ⟨"ProofGate$Prover", "applyImply", "(IIII)V"⟩
abbrev b_Pv_writesStep : ByteArray := prog_9_method_20_code
def y_Pv_writesStep : MethodName := ⟨"ProofGate$Prover", "writesStep", "(II)Z"⟩
abbrev b_Pv_written : ByteArray := prog_9_method_2_code
def y_Pv_written : MethodName := ⟨"ProofGate$Prover", "written", "()LProofGate$Proof;"⟩
abbrev b_Pf_become : ByteArray := prog_8_method_9_code
def y_Pf_become : MethodName := ⟨"ProofGate$Proof", "become", "(LProofGate$Proof;)V"⟩
abbrev b_Ga_check : ByteArray := prog_1_method_12_code
def y_Ga_check : MethodName := ⟨"ProofGate", "check", "(III)Z"⟩
abbrev b_Ck_accepts : ByteArray := prog_3_method_2_code
def y_Ck_accepts : MethodName := ⟨"ProofGate$Checker", "accepts", "(LProofGate$Proof;IIII)Z"⟩
abbrev b_Ck_follows : ByteArray := prog_3_method_3_code
def y_Ck_follows : MethodName := ⟨"ProofGate$Checker", "follows", "(IIII)Z"⟩
abbrev b_Ck_isSaid : ByteArray := prog_3_method_4_code
def y_Ck_isSaid : MethodName := ⟨"ProofGate$Checker", "isSaid", "(LProofGate$Credential;LProofGate$Fact;)Z"⟩
abbrev b_Fa_becomeSaidBy : ByteArray := prog_6_method_2_code
def y_Fa_becomeSaidBy : MethodName := ⟨"ProofGate$Fact", "becomeSaidBy", "(LProofGate$Credential;)V"⟩
abbrev b_Ck_isImplied : ByteArray := prog_3_method_5_code
def y_Ck_isImplied : MethodName := ⟨"ProofGate$Checker", "isImplied", "(LProofGate$Credential;LProofGate$Fact;LProofGate$Fact;)Z"⟩
abbrev b_Fa_become : ByteArray := prog_6_method_3_code
def y_Fa_become : MethodName := ⟨"ProofGate$Fact", "become", "(LProofGate$Fact;)V"⟩
abbrev b_Ck_isJoined : ByteArray := prog_3_method_6_code
def y_Ck_isJoined : MethodName := ⟨"ProofGate$Checker", "isJoined", "(ILProofGate$Fact;LProofGate$Fact;LProofGate$Fact;)Z"⟩
abbrev b_Ck_isHandedOn : ByteArray := prog_3_method_8_code
def y_Ck_isHandedOn : MethodName := ⟨"ProofGate$Checker", "isHandedOn", "(LProofGate$Fact;LProofGate$Fact;LProofGate$Fact;)Z"⟩
abbrev b_Fa_isOfSameThing : ByteArray := prog_6_method_5_code
def y_Fa_isOfSameThing : MethodName := ⟨"ProofGate$Fact", "isOfSameThing", "(LProofGate$Fact;)Z"⟩
abbrev b_Ck_isTrustedDeeper : ByteArray := prog_3_method_7_code
def y_Ck_isTrustedDeeper : MethodName := ⟨"ProofGate$Checker", "isTrustedDeeper", "(LProofGate$Fact;LProofGate$Fact;LProofGate$Fact;)Z"⟩
abbrev b_Fa_isMay : ByteArray := prog_6_method_4_code
def y_Fa_isMay : MethodName := ⟨"ProofGate$Fact", "isMay", "(IIII)Z"⟩
abbrev b_Ga_fuse : ByteArray := prog_1_method_14_code
def y_Ga_fuse : MethodName := ⟨"ProofGate", "fuse", "(I)Z"⟩
abbrev b_Fu_light : ByteArray := prog_7_method_2_code
def y_Fu_light : MethodName := ⟨"ProofGate$Fuse", "light", "(I)V"⟩
abbrev b_Ga_owner : ByteArray := prog_1_method_15_code
def y_Ga_owner : MethodName := ⟨"ProofGate", "owner", "(I)I"⟩
abbrev b_Ga_credentials : ByteArray := prog_1_method_16_code
def y_Ga_credentials : MethodName := ⟨"ProofGate", "credentials", "()I"⟩
abbrev b_Ga_valid : ByteArray := prog_1_method_17_code
def y_Ga_valid : MethodName := ⟨"ProofGate", "valid", "(I)Z"⟩
abbrev b_Ga_grants : ByteArray := prog_1_method_18_code
def y_Ga_grants : MethodName := ⟨"ProofGate", "grants", "()I"⟩
abbrev b_Lg_count : ByteArray := prog_2_method_2_code
def y_Lg_count : MethodName := ⟨"ProofGate$AuditLog", "count", "()I"⟩
abbrev b_Ga_chain : ByteArray := prog_1_method_19_code
def y_Ga_chain : MethodName := ⟨"ProofGate", "chain", "()I"⟩
abbrev b_Lg_link : ByteArray := prog_2_method_3_code
def y_Lg_link : MethodName := ⟨"ProofGate$AuditLog", "link", "()I"⟩
abbrev b_Lw_cell : ByteArray := method_2_code
def y_Lw_cell : MethodName := ⟨"ProofGateLaw", "cell", "([II)I"⟩
abbrev b_Lw_submit : ByteArray := method_3_code
def y_Lw_submit : MethodName := ⟨"ProofGateLaw", "submit", "(LProofGate;IIIII[J)I"⟩
abbrev b_Ga_submit : ByteArray := prog_1_method_3_code
def y_Ga_submit : MethodName := ⟨"ProofGate", "submit", "(IIIII)I"⟩
abbrev b_Cr_isWellFormed : ByteArray := prog_4_method_4_code
def y_Cr_isWellFormed : MethodName := ⟨"ProofGate$Credential", "isWellFormed", "()Z"⟩
abbrev b_Ga_writeRecord : ByteArray := prog_1_method_21_code
def y_Ga_writeRecord : MethodName := ⟨"ProofGate", "writeRecord", "()V"⟩
abbrev b_Fu_burnsThrough : ByteArray := prog_7_method_3_code
def y_Fu_burnsThrough : MethodName := ⟨"ProofGate$Fuse", "burnsThrough", "()Z"⟩
abbrev b_Cs_take : ByteArray := prog_5_method_3_code
def y_Cs_take : MethodName := ⟨"ProofGate$Credentials", "take", "(LProofGate$Credential;)I"⟩
abbrev b_AL_add : ByteArray := prog_26_method_25_code
def y_AL_add : MethodName := ⟨"java/util/ArrayList", "add", "(Ljava/lang/Object;)Z"⟩
abbrev b_AL_add2 : ByteArray := prog_26_method_24_code
def y_AL_add2 : MethodName := ⟨"java/util/ArrayList", "add", "(Ljava/lang/Object;[Ljava/lang/Object;I)V"⟩
abbrev b_AL_grow : ByteArray := prog_26_method_7_code
def y_AL_grow : MethodName := ⟨"java/util/ArrayList", "grow", "()[Ljava/lang/Object;"⟩
abbrev b_AL_grow2 : ByteArray := prog_26_method_6_code
def y_AL_grow2 : MethodName := ⟨"java/util/ArrayList", "grow", "(I)[Ljava/lang/Object;"⟩
abbrev b_As_newLength : ByteArray := prog_34_method_27_code
def y_As_newLength : MethodName := ⟨"jdk/internal/util/ArraysSupport", "newLength", "(III)I"⟩
abbrev b_Ma_max : ByteArray := prog_18_method_65_code
def y_Ma_max : MethodName := ⟨"java/lang/Math", "max", "(II)I"⟩
abbrev b_As_hugeLength : ByteArray := prog_34_method_28_code
def y_As_hugeLength : MethodName := ⟨"jdk/internal/util/ArraysSupport", "hugeLength", "(II)I"⟩
abbrev b_Ar_copyOf : ByteArray := prog_27_method_119_code
def y_Ar_copyOf : MethodName := ⟨"java/util/Arrays", "copyOf", "([Ljava/lang/Object;I)[Ljava/lang/Object;"⟩
abbrev b_Ar_copyOf2 : ByteArray := prog_27_method_120_code
def y_Ar_copyOf2 : MethodName := ⟨"java/util/Arrays", "copyOf", "([Ljava/lang/Object;ILjava/lang/Class;)[Ljava/lang/Object;"⟩
abbrev b_Lw_revoke : ByteArray := method_4_code
def y_Lw_revoke : MethodName := ⟨"ProofGateLaw", "revoke", "(LProofGate;II[J)I"⟩
abbrev b_Ga_revoke : ByteArray := prog_1_method_5_code
def y_Ga_revoke : MethodName := ⟨"ProofGate", "revoke", "(II)Z"⟩
abbrev b_Lw_request : ByteArray := method_5_code
def y_Lw_request : MethodName := ⟨"ProofGateLaw", "request", "(LProofGate;IIIIZ[J)I"⟩
abbrev b_Ga_request : ByteArray := prog_1_method_13_code
def y_Ga_request : MethodName := ⟨"ProofGate", "request", "(IIIIZ)I"⟩
abbrev b_Ga_useUpDraft : ByteArray := prog_1_method_22_code
def y_Ga_useUpDraft : MethodName := ⟨"ProofGate", "useUpDraft", "(III)I"⟩
abbrev b_Lg_addGrant : ByteArray := prog_2_method_4_code
def y_Lg_addGrant : MethodName := ⟨"ProofGate$AuditLog", "addGrant", "(IIII)V"⟩
abbrev b_Ga_carryOut : ByteArray := prog_1_method_23_code
def y_Ga_carryOut : MethodName := ⟨"ProofGate", "carryOut", "(IIII)I"⟩
abbrev b_Mo_init : ByteArray := prog_11_method_1_code
def y_Mo_init : MethodName := ⟨"ProofGateModel", "<init>", "(I)V"⟩
abbrev b_Mo_thrown : ByteArray := prog_11_method_2_code
def y_Mo_thrown : MethodName := ⟨"ProofGateModel", "thrown", "()I"⟩
abbrev b_Mo_fuse : ByteArray := prog_11_method_6_code
def y_Mo_fuse : MethodName := ⟨"ProofGateModel", "fuse", "(I)Z"⟩
abbrev b_Mo_in : ByteArray := prog_11_method_4_code
def y_Mo_in : MethodName := ⟨"ProofGateModel", "in", "(III)Z"⟩
abbrev b_Mo_seal : ByteArray := prog_11_method_8_code
def y_Mo_seal : MethodName := ⟨"ProofGateModel", "seal", "(IIIIIIII)I"⟩
abbrev b_Mo_mix : ByteArray := prog_11_method_7_code
def y_Mo_mix : MethodName := ⟨"ProofGateModel", "mix", "(II)I"⟩
abbrev b_Mo_set : ByteArray := prog_11_method_9_code
def y_Mo_set : MethodName := ⟨"ProofGateModel", "set", "(IIII)V"⟩
abbrev b_Mo_submit : ByteArray := prog_11_method_13_code
def y_Mo_submit : MethodName := ⟨"ProofGateModel", "submit", "(IIIII)I"⟩
abbrev b_Mo_isPerson : ByteArray := prog_11_method_10_code
def y_Mo_isPerson : MethodName := ⟨"ProofGateModel", "isPerson", "(I)Z"⟩
abbrev b_Mo_isFit : ByteArray := prog_11_method_12_code
def y_Mo_isFit : MethodName := ⟨"ProofGateModel", "isFit", "(I)Z"⟩
abbrev b_Mo_isRight : ByteArray := prog_11_method_11_code
def y_Mo_isRight : MethodName := ⟨"ProofGateModel", "isRight", "(I)Z"⟩
abbrev b_Mo_fails : ByteArray := prog_11_method_3_code
def y_Mo_fails : MethodName := ⟨"ProofGateModel", "fails", "(I)I"⟩
abbrev b_Mo_recorded : ByteArray := prog_11_method_5_code
def y_Mo_recorded : MethodName := ⟨"ProofGateModel", "recorded", "()Z"⟩
abbrev b_Mo_revoke : ByteArray := prog_11_method_14_code
def y_Mo_revoke : MethodName := ⟨"ProofGateModel", "revoke", "(II)Z"⟩
abbrev b_Mo_step : ByteArray := prog_11_method_35_code
def y_Mo_step : MethodName := ⟨"ProofGateModel", "step", "(III)I"⟩
abbrev b_Mo_clear : ByteArray := prog_11_method_36_code
def y_Mo_clear : MethodName := ⟨"ProofGateModel", "clear", "()I"⟩
abbrev b_Mo_steps : ByteArray := prog_11_method_37_code
def y_Mo_steps : MethodName := ⟨"ProofGateModel", "steps", "()I"⟩
abbrev b_Mo_stepAt : ByteArray := prog_11_method_38_code
def y_Mo_stepAt : MethodName := ⟨"ProofGateModel", "stepAt", "(II)I"⟩
abbrev b_Mo_prove : ByteArray := prog_11_method_41_code
def y_Mo_prove : MethodName := ⟨"ProofGateModel", "prove", "(III)I"⟩
abbrev b_Mo_isGoal : ByteArray := prog_11_method_39_code
def y_Mo_isGoal : MethodName := ⟨"ProofGateModel", "isGoal", "(III)Z"⟩
abbrev b_Mo_sayer : ByteArray := prog_11_method_40_code
def y_Mo_sayer : MethodName := ⟨"ProofGateModel", "sayer", "(II)I"⟩
abbrev b_Mo_may : ByteArray := prog_11_method_16_code
def y_Mo_may : MethodName := ⟨"ProofGateModel", "may", "(III)I"⟩
abbrev b_Mo_proof : ByteArray := prog_11_method_26_code
def y_Mo_proof : MethodName := ⟨"ProofGateModel", "proof", "(II)I"⟩
abbrev b_Mo_said : ByteArray := prog_11_method_21_code
def y_Mo_said : MethodName := ⟨"ProofGateModel", "said", "()V"⟩
abbrev b_Mo_holds : ByteArray := prog_11_method_15_code
def y_Mo_holds : MethodName := ⟨"ProofGateModel", "holds", "(I)Z"⟩
abbrev b_Mo_speaks : ByteArray := prog_11_method_17_code
def y_Mo_speaks : MethodName := ⟨"ProofGateModel", "speaks", "(II)I"⟩
abbrev b_Mo_trusts : ByteArray := prog_11_method_18_code
def y_Mo_trusts : MethodName := ⟨"ProofGateModel", "trusts", "(IIII)I"⟩
abbrev b_Mo_finds : ByteArray := prog_11_method_20_code
def y_Mo_finds : MethodName := ⟨"ProofGateModel", "finds", "(IIII)Z"⟩
abbrev b_Mo_goesOn : ByteArray := prog_11_method_25_code
def y_Mo_goesOn : MethodName := ⟨"ProofGateModel", "goesOn", "()Z"⟩
abbrev b_Mo_newMay : ByteArray := prog_11_method_22_code
def y_Mo_newMay : MethodName := ⟨"ProofGateModel", "newMay", "(III)Z"⟩
abbrev b_Mo_had : ByteArray := prog_11_method_19_code
def y_Mo_had : MethodName := ⟨"ProofGateModel", "had", "(I)Z"⟩
abbrev b_Mo_newTrust : ByteArray := prog_11_method_23_code
def y_Mo_newTrust : MethodName := ⟨"ProofGateModel", "newTrust", "(IIII)Z"⟩
abbrev b_Mo_newVoice : ByteArray := prog_11_method_24_code
def y_Mo_newVoice : MethodName := ⟨"ProofGateModel", "newVoice", "(II)Z"⟩
abbrev b_Mo_needed : ByteArray := prog_11_method_27_code
def y_Mo_needed : MethodName := ⟨"ProofGateModel", "needed", "(I)I"⟩
abbrev b_Mo_note : ByteArray := prog_11_method_28_code
def y_Mo_note : MethodName := ⟨"ProofGateModel", "note", "(I)V"⟩
abbrev b_Mo_check : ByteArray := prog_11_method_42_code
def y_Mo_check : MethodName := ⟨"ProofGateModel", "check", "(III)Z"⟩
abbrev b_Mo_proves : ByteArray := prog_11_method_34_code
def y_Mo_proves : MethodName := ⟨"ProofGateModel", "proves", "(IIII)Z"⟩
abbrev b_Mo_proved : ByteArray := prog_11_method_32_code
def y_Mo_proved : MethodName := ⟨"ProofGateModel", "proved", "(I)I"⟩
abbrev b_Mo_spoken : ByteArray := prog_11_method_33_code
def y_Mo_spoken : MethodName := ⟨"ProofGateModel", "spoken", "(I)I"⟩
abbrev b_Mo_fact : ByteArray := prog_11_method_29_code
def y_Mo_fact : MethodName := ⟨"ProofGateModel", "fact", "(IIIIII)I"⟩
abbrev b_Mo_stepFact : ByteArray := prog_11_method_31_code
def y_Mo_stepFact : MethodName := ⟨"ProofGateModel", "stepFact", "(II)I"⟩
abbrev b_Mo_item : ByteArray := prog_11_method_30_code
def y_Mo_item : MethodName := ⟨"ProofGateModel", "item", "(II)I"⟩
abbrev b_Mo_request : ByteArray := prog_11_method_43_code
def y_Mo_request : MethodName := ⟨"ProofGateModel", "request", "(IIIIZ)I"⟩
abbrev b_Mo_done : ByteArray := prog_11_method_44_code
def y_Mo_done : MethodName := ⟨"ProofGateModel", "done", "(IIII)I"⟩
abbrev b_Mo_pass : ByteArray := prog_11_method_45_code
def y_Mo_pass : MethodName := ⟨"ProofGateModel", "pass", "(I)I"⟩
abbrev b_Mo_owner : ByteArray := prog_11_method_46_code
def y_Mo_owner : MethodName := ⟨"ProofGateModel", "owner", "(I)I"⟩
abbrev b_Mo_credentials : ByteArray := prog_11_method_47_code
def y_Mo_credentials : MethodName := ⟨"ProofGateModel", "credentials", "()I"⟩
abbrev b_Mo_valid : ByteArray := prog_11_method_48_code
def y_Mo_valid : MethodName := ⟨"ProofGateModel", "valid", "(I)Z"⟩
abbrev b_Mo_grants : ByteArray := prog_11_method_49_code
def y_Mo_grants : MethodName := ⟨"ProofGateModel", "grants", "()I"⟩
abbrev b_Mo_chain : ByteArray := prog_11_method_50_code
def y_Mo_chain : MethodName := ⟨"ProofGateModel", "chain", "()I"⟩
def T_AL : u_T := fun k => match k with
  | 0 => ("java/util/ArrayList", "elementData", "[Ljava/lang/Object;", false)
  | 1 => ("java/util/ArrayList", "size", "I", false)
  | _ => ("java/util/AbstractList", "modCount", "I", false)
def t_AL : Nat → FieldType := fun k => match k with
  | 0 => .array (.object "java/lang/Object")
  | 1 => .int
  | _ => .int
def T_Lg : u_T := fun k => match k with
  | 0 => ("ProofGate$AuditLog", "count", "I", false)
  | _ => ("ProofGate$AuditLog", "link", "I", false)
def t_Lg : Nat → FieldType := fun k => match k with
  | 0 => .int
  | _ => .int
def T_Ck : u_T := fun k => match k with
  | 0 => ("ProofGate$Checker", "held", "LProofGate$Credentials;", true)
  | _ => ("ProofGate$Checker", "facts", "[LProofGate$Fact;", true)
def t_Ck : Nat → FieldType := fun k => match k with
  | 0 => .object "ProofGate$Credentials"
  | _ => .array (.object "ProofGate$Fact")
def T_Cr : u_T := fun k => match k with
  | 0 => ("ProofGate$Credential", "issuer", "I", true)
  | 1 => ("ProofGate$Credential", "kind", "I", true)
  | 2 => ("ProofGate$Credential", "numbers", "[I", true)
  | 3 => ("ProofGate$Credential", "first", "I", true)
  | 4 => ("ProofGate$Credential", "last", "I", true)
  | _ => ("ProofGate$Credential", "revoked", "Z", false)
def t_Cr : Nat → FieldType := fun k => match k with
  | 0 => .int
  | 1 => .int
  | 2 => .array (.int)
  | 3 => .int
  | 4 => .int
  | _ => .boolean
def T_Cs : u_T := fun k => match k with
  | 0 => ("ProofGate$Credentials", "taken", "Ljava/util/ArrayList;", true)
  | _ => ("ProofGate$Credentials", "time", "I", false)
def t_Cs : Nat → FieldType := fun k => match k with
  | 0 => .object "java/util/ArrayList"
  | _ => .int
def T_Fa : u_T := fun k => match k with
  | 0 => ("ProofGate$Fact", "kind", "I", false)
  | 1 => ("ProofGate$Fact", "of", "I", false)
  | 2 => ("ProofGate$Fact", "to", "I", false)
  | 3 => ("ProofGate$Fact", "right", "I", false)
  | 4 => ("ProofGate$Fact", "object", "I", false)
  | _ => ("ProofGate$Fact", "depth", "I", false)
def t_Fa : Nat → FieldType := fun k => match k with
  | 0 => .int
  | 1 => .int
  | 2 => .int
  | 3 => .int
  | 4 => .int
  | _ => .int
def T_Fu : u_T := fun k => match k with
  | _ => ("ProofGate$Fuse", "left", "I", false)
def t_Fu : Nat → FieldType := fun k => match k with
  | _ => .int
def T_Pf : u_T := fun k => match k with
  | 0 => ("ProofGate$Proof", "rules", "[I", true)
  | 1 => ("ProofGate$Proof", "xs", "[I", true)
  | 2 => ("ProofGate$Proof", "ys", "[I", true)
  | _ => ("ProofGate$Proof", "length", "I", false)
def t_Pf : Nat → FieldType := fun k => match k with
  | 0 => .array (.int)
  | 1 => .array (.int)
  | 2 => .array (.int)
  | _ => .int
def T_Pv : u_T := fun k => match k with
  | 0 => ("ProofGate$Prover", "held", "LProofGate$Credentials;", true)
  | 1 => ("ProofGate$Prover", "written", "LProofGate$Proof;", true)
  | 2 => ("ProofGate$Prover", "roundOf", "[I", true)
  | 3 => ("ProofGate$Prover", "ruleOf", "[I", true)
  | 4 => ("ProofGate$Prover", "firstOf", "[I", true)
  | 5 => ("ProofGate$Prover", "secondOf", "[I", true)
  | 6 => ("ProofGate$Prover", "stepOf", "[I", true)
  | 7 => ("ProofGate$Prover", "round", "I", false)
  | _ => ("ProofGate$Prover", "foundSome", "Z", false)
def t_Pv : Nat → FieldType := fun k => match k with
  | 0 => .object "ProofGate$Credentials"
  | 1 => .object "ProofGate$Proof"
  | 2 => .array (.int)
  | 3 => .array (.int)
  | 4 => .array (.int)
  | 5 => .array (.int)
  | 6 => .array (.int)
  | 7 => .int
  | _ => .boolean
def T_Ga : u_T := fun k => match k with
  | 0 => ("ProofGate", "secret", "I", true)
  | 1 => ("ProofGate", "numbers", "[I", true)
  | 2 => ("ProofGate", "held", "LProofGate$Credentials;", true)
  | 3 => ("ProofGate", "draft", "LProofGate$Proof;", true)
  | 4 => ("ProofGate", "prover", "LProofGate$Prover;", true)
  | 5 => ("ProofGate", "checker", "LProofGate$Checker;", true)
  | 6 => ("ProofGate", "log", "LProofGate$AuditLog;", true)
  | 7 => ("ProofGate", "wire", "LProofGate$Fuse;", true)
  | 8 => ("ProofGate", "owners", "[I", true)
  | _ => ("ProofGate", "values", "[I", true)
def t_Ga : Nat → FieldType := fun k => match k with
  | 0 => .int
  | 1 => .array (.int)
  | 2 => .object "ProofGate$Credentials"
  | 3 => .object "ProofGate$Proof"
  | 4 => .object "ProofGate$Prover"
  | 5 => .object "ProofGate$Checker"
  | 6 => .object "ProofGate$AuditLog"
  | 7 => .object "ProofGate$Fuse"
  | 8 => .array (.int)
  | _ => .array (.int)
def T_Mo : u_T := fun k => match k with
  | 0 => ("ProofGateModel", "secret", "I", true)
  | 1 => ("ProofGateModel", "time", "I", false)
  | 2 => ("ProofGateModel", "fault", "I", false)
  | 3 => ("ProofGateModel", "lit", "Z", false)
  | 4 => ("ProofGateModel", "left", "I", false)
  | 5 => ("ProofGateModel", "there", "[Z", true)
  | 6 => ("ProofGateModel", "owner", "[I", true)
  | 7 => ("ProofGateModel", "value", "[I", true)
  | 8 => ("ProofGateModel", "grants", "I", false)
  | 9 => ("ProofGateModel", "chain", "I", false)
  | 10 => ("ProofGateModel", "credentials", "I", false)
  | 11 => ("ProofGateModel", "issuer", "[I", true)
  | 12 => ("ProofGateModel", "kind", "[I", true)
  | 13 => ("ProofGateModel", "one", "[I", true)
  | 14 => ("ProofGateModel", "two", "[I", true)
  | 15 => ("ProofGateModel", "three", "[I", true)
  | 16 => ("ProofGateModel", "four", "[I", true)
  | 17 => ("ProofGateModel", "first", "[I", true)
  | 18 => ("ProofGateModel", "last", "[I", true)
  | 19 => ("ProofGateModel", "revoked", "[Z", true)
  | 20 => ("ProofGateModel", "given", "[I", true)
  | 21 => ("ProofGateModel", "drafted", "I", false)
  | 22 => ("ProofGateModel", "made", "I", false)
  | 23 => ("ProofGateModel", "rule", "[I", true)
  | 24 => ("ProofGateModel", "left1", "[I", true)
  | 25 => ("ProofGateModel", "left2", "[I", true)
  | 26 => ("ProofGateModel", "facts", "[I", true)
  | 27 => ("ProofGateModel", "madeRule", "[I", true)
  | 28 => ("ProofGateModel", "madeX", "[I", true)
  | 29 => ("ProofGateModel", "madeY", "[I", true)
  | 30 => ("ProofGateModel", "round", "[I", true)
  | 31 => ("ProofGateModel", "by", "[I", true)
  | 32 => ("ProofGateModel", "from", "[I", true)
  | 33 => ("ProofGateModel", "with", "[I", true)
  | 34 => ("ProofGateModel", "place", "[I", true)
  | 35 => ("ProofGateModel", "stack", "[I", true)
  | 36 => ("ProofGateModel", "now", "I", false)
  | _ => ("ProofGateModel", "about", "I", false)
def t_Mo : Nat → FieldType := fun k => match k with
  | 0 => .int
  | 1 => .int
  | 2 => .int
  | 3 => .boolean
  | 4 => .int
  | 5 => .array (.boolean)
  | 6 => .array (.int)
  | 7 => .array (.int)
  | 8 => .int
  | 9 => .int
  | 10 => .int
  | 11 => .array (.int)
  | 12 => .array (.int)
  | 13 => .array (.int)
  | 14 => .array (.int)
  | 15 => .array (.int)
  | 16 => .array (.int)
  | 17 => .array (.int)
  | 18 => .array (.int)
  | 19 => .array (.boolean)
  | 20 => .array (.int)
  | 21 => .int
  | 22 => .int
  | 23 => .array (.int)
  | 24 => .array (.int)
  | 25 => .array (.int)
  | 26 => .array (.int)
  | 27 => .array (.int)
  | 28 => .array (.int)
  | 29 => .array (.int)
  | 30 => .array (.int)
  | 31 => .array (.int)
  | 32 => .array (.int)
  | 33 => .array (.int)
  | 34 => .array (.int)
  | 35 => .array (.int)
  | 36 => .int
  | _ => .int
abbrev vwCl : List vw_C := [("java/util/ArrayList", T_AL, 3), ("ProofGate$AuditLog", T_Lg, 2), ("ProofGate$Checker", T_Ck, 2), ("ProofGate$Credential", T_Cr, 6), ("ProofGate$Credentials", T_Cs, 2), ("ProofGate$Fact", T_Fa, 6), ("ProofGate$Fuse", T_Fu, 1), ("ProofGate$Proof", T_Pf, 4), ("ProofGate$Prover", T_Pv, 9), ("ProofGate", T_Ga, 10), ("ProofGateModel", T_Mo, 38)]
end
section
/-! The memory that class and reference run in, by places of our own: L says what lies at a place (an array's kind and length, an object's class and its references), M says the ints that lie in it; 'r' carries places to addresses. V: the machine's frame over such a memory comes to its end. -/
abbrev gK : Type := (Nat × Nat × Option (Option (Nat → Option Nat))) ⊕ (Nat × List (Option Value))
abbrev gLy : Type := Nat → Option gK
abbrev gMe : Type := Nat → Nat → Int32
/-- what stays: the classes' numbers and slots, the arrays' classes, the base, the heap below it, the given tables' addresses, what else is known of a state -/
abbrev gG : Type := va_G × (Nat → ClassId) × Nat × Heap × (Nat → Nat) × (State → Prop)
def gV (r : Nat → Nat) (v : Value) : Value := match v with
  | .ref a => .ref (r a)
  | w => w
theorem gV_cat (r : Nat → Nat) (v : Value) : (gV r v).category = v.category := by cases v <;> rfl
theorem gV_eq {r r' : Nat → Nat} {v : Value} (h : ∀ a, v = .ref a → r' a = r a) : gV r' v = gV r v := by
  cases v <;> first | rfl | exact congrArg Value.ref (h _ rfl)
def gO (r : Nat → Nat) (x : Int32) (o : Option Value) : Value := match o with
  | none => .int x
  | some v => gV r v
def gF (r : Nat → Nat) (u : Nat → Int32) (fs : List (Option Value)) : List Value := fs.mapIdx (fun k o => gO r (u k) o)
theorem gF_at (r : Nat → Nat) (u : Nat → Int32) (fs : List (Option Value)) (k : Nat) : (gF r u fs)[k]? = (fs[k]?).map (fun o => gO r (u k) o) := by
  simp [gF]
theorem gF_len (r : Nat → Nat) (u : Nat → Int32) (fs : List (Option Value)) : (gF r u fs).length = fs.length := by simp [gF]
theorem gF_seti (r : Nat → Nat) (u : Nat → Int32) {fs : List (Option Value)} {k : Nat} (x : Int32) (h : fs[k]? = some none) : (gF r u fs).set k (.int x) = gF r (upd u k x) fs := by
  apply List.ext_getElem?
  intro j
  have hk : k < fs.length := (List.getElem?_eq_some_iff.mp h).1
  by_cases hj : j = k
  · subst hj
    rw [List.getElem?_set_self (by rw [gF_len]; exact hk), gF_at, h]
    simp [gO, upd]
  · rw [List.getElem?_set_ne (Ne.symm hj), gF_at, gF_at]
    simp [upd, hj]
theorem gF_setr (r : Nat → Nat) (u : Nat → Int32) {fs : List (Option Value)} {k : Nat} (v : Value) (hk : k < fs.length) : (gF r u fs).set k (gV r v) = gF r u (fs.set k (some v)) := by
  apply List.ext_getElem?
  intro j
  by_cases hj : j = k
  · subst hj
    rw [List.getElem?_set_self (by rw [gF_len]; exact hk), gF_at, List.getElem?_set_self hk]
    rfl
  · rw [List.getElem?_set_ne (Ne.symm hj), gF_at, gF_at, List.getElem?_set_ne (Ne.symm hj)]
def gE (dA : Nat → ClassId) (r : Nat → Nat) (k : gK) (u : Nat → Int32) : va_E := match k with
  | .inl (t, n, none) => .inl (dA t, n, .inl u)
  | .inl (t, n, some none) => .inl (dA t, n, .inr (.inl (fun j => (u j).toInt64)))
  | .inl (t, n, some (some f)) => .inl (dA t, n, .inr (.inr (.inr (.inr (fun j => (f j).map r)))))
  | .inr (ci, fs) => .inr (ci, gF r u fs)
/-- the places that a cell refers to -/
def gRf (k : gK) (b : Nat) : Prop := match k with
  | .inl (_, _, some (some f)) => ∃ j, f j = some b
  | .inr (_, fs) => some (Value.ref b) ∈ fs
  | _ => False
theorem gE_eq {dA : Nat → ClassId} {r r' : Nat → Nat} {k : gK} {u : Nat → Int32} (h : ∀ b, gRf k b → r' b = r b) : gE dA r' k u = gE dA r k u := by
  rcases k with ⟨t, n, _ | _ | f⟩ | ⟨ci, fs⟩
  · rfl
  · rfl
  · show Sum.inl _ = Sum.inl _
    have e : (fun j => (f j).map r') = (fun j => (f j).map r) := by
      funext j
      cases hf : f j with
      | none => rfl
      | some b => exact congrArg some (h b ⟨j, hf⟩)
    rw [e]
  · show Sum.inr _ = Sum.inr _
    have e : gF r' u fs = gF r u fs := by
      apply List.ext_getElem?
      intro j
      rw [gF_at, gF_at]
      cases hf : fs[j]? with
      | none => rfl
      | some o =>
        cases o with
        | none => rfl
        | some v =>
          show some _ = some _
          have : gV r' v = gV r v := gV_eq (fun a ha => h a (by subst ha; exact List.mem_of_getElem? hf))
          exact congrArg some this
    rw [e]
/-- the memory at its addresses in the heap; below the base nothing has changed -/
def gR (G : gG) (r : Nat → Nat) (L : gLy) (M : gMe) (H : Heap) : Prop :=
  (∀ a k, L a = some k → va_at G.1 vwCl (r a, gE G.2.1 r k (M a)) H ∧ G.2.2.1 ≤ r a ∧ 2 ≤ a) ∧ (∀ a b, L a ≠ none → L b ≠ none → r a = r b → a = b) ∧ (∀ a k, L a = some k → ∀ b, gRf k b → b < 2 ∨ L b ≠ none) ∧
  (∀ i, i < 2 → r i = G.2.2.2.2.1 i) ∧ G.2.2.1 ≤ H.size ∧ ∀ q : Nat, q < G.2.2.1 → H[q]? = G.2.2.2.1[q]?
/-- what is known of the tables in a state -/
abbrev tyL (dA : Nat → ClassId) : List (ClassId × FieldType) := [(dA 0, .int), (dA 1, .boolean), (dA 2, .long), (dA 3, .object "ProofGate$Fact"), (dA 4, .object "java/lang/Object")]
def gW (G : gG) (U : State) : Prop := (∀ w ∈ TB, va_Nw w U) ∧ (∀ w ∈ NB, va_Nw w U) ∧ va_K G.1 vwCl (tyL G.2.1) U ∧ G.2.2.2.2.2 U ∧ ∀ s U : State, s.WarmedH U.vm → G.2.2.2.2.2 s → G.2.2.2.2.2 U
theorem gW.moved {G : gG} {s U : State} (hW : s.WarmedH U.vm) (h : gW G s) : gW G U := by
  obtain ⟨h1, h2, h3, h4, h5⟩ := h
  refine ⟨fun w hw => ?_, fun w hw => NB_warm w hw hW (h2 w hw), va_K.moved hW.alike h3, h5 s U hW h4, h5⟩
  exact word_at hW (good_of_word (TB_good w hw)) (h1 w hw)
theorem gW.t {G : gG} {U : State} (h : gW G U) {w : Cond} (hw : w ∈ TB) {A : Array Value} : w.before A U = true := by
  rcases good_of_word (TB_good w hw) with hg | ⟨ty, rfl⟩
  · simp only [Bool.and_eq_true] at hg
    exact va_Nw.use hg.1 (h.1 w hw)
  · exact word_at (State.WarmedH.refl U) (Or.inr ⟨ty, rfl⟩) (h.1 _ hw)
/-- the locals -/
def gP (r : Nat → Nat) (lv : List (Option Value)) : List (Nat × Value) := (lv.mapIdx (fun i o => (i, o))).filterMap (fun q => q.2.map (fun v => (q.1, gV r v)))
theorem gP_mem {r : Nat → Nat} {lv : List (Option Value)} {q : Nat × Value} : q ∈ gP r lv ↔ ∃ v, lv[q.1]? = some (some v) ∧ q.2 = gV r v := by
  unfold gP
  rw [List.mem_filterMap]
  constructor
  · rintro ⟨⟨i, o⟩, h1, h2⟩
    obtain ⟨j, hj⟩ := List.getElem?_of_mem h1
    rw [List.getElem?_mapIdx] at hj
    cases ho : lv[j]? with
    | none => rw [ho] at hj; cases hj
    | some o' =>
      rw [ho] at hj
      cases hj
      cases o with
      | none => cases h2
      | some v =>
        cases h2
        exact ⟨v, ho, rfl⟩
  · rintro ⟨v, h1, h2⟩
    refine ⟨(q.1, some v), ?_, ?_⟩
    · apply List.mem_of_getElem? (i := q.1)
      rw [List.getElem?_mapIdx, h1]
      rfl
    · show some (q.1, gV r v) = some q
      rw [← h2]
def gH (ls : Array Slot) (nL : Nat) (r : Nat → Nat) (lv : List (Option Value)) : Prop := lv_has ls nL (gP r lv) ∧ ∀ v, some v ∈ lv → v.category = 1
theorem gH.at {ls : Array Slot} {nL : Nat} {r : Nat → Nat} {lv : List (Option Value)} (h : gH ls nL r lv) {i : Nat} {v : Value} (hi : lv[i]? = some (some v)) : ls[i]? = some (.val (gV r v)) := h.1.2.2 (i, gV r v) (gP_mem.mpr ⟨v, hi, rfl⟩)
theorem gH.set {ls' : Array Slot} {nL : Nat} {r : Nat → Nat} {lv : List (Option Value)} {i : Nat} {v : Value} (hc : ∀ v, some v ∈ lv → v.category = 1) (hv : v.category = 1)
    (h : lv_has ls' nL ((i, gV r v) :: (gP r lv).filter (fun q => !(q.1 == i) && !(q.1 + 1 == i && q.2.category == 2)))) : gH ls' nL r (lv.set i (some v)) := by
  refine ⟨⟨h.1, h.2.1, fun q hq => h.2.2 q ?_⟩, fun w hw => ?_⟩
  · obtain ⟨w, h1, h2⟩ := gP_mem.mp hq
    by_cases hj : q.1 = i
    · have hl : i < lv.length := by
        have := (List.getElem?_eq_some_iff.mp h1).1
        rw [List.length_set] at this
        omega
      rw [hj, List.getElem?_set_self hl] at h1
      cases h1
      obtain ⟨q1, q2⟩ := q
      dsimp only at hj h2
      rw [hj, h2]
      exact List.mem_cons_self
    · rw [List.getElem?_set_ne (Ne.symm hj)] at h1
      refine List.mem_cons_of_mem _ (List.mem_filter.mpr ⟨gP_mem.mpr ⟨w, h1, h2⟩, ?_⟩)
      have hw : q.2.category = 1 := by rw [h2, gV_cat]; exact hc w (List.mem_of_getElem? h1)
      simp [hj, hw]
  · rcases List.mem_or_eq_of_mem_set hw with hw | hw
    · exact hc w hw
    · cases hw
      exact hv
theorem gH.re {ls : Array Slot} {nL : Nat} {r r' : Nat → Nat} {lv : List (Option Value)} (h : gH ls nL r lv) (hr : ∀ a, some (Value.ref a) ∈ lv → r' a = r a) : gH ls nL r' lv := by
  refine ⟨⟨h.1.1, h.1.2.1, fun q hq => ?_⟩, h.2⟩
  obtain ⟨v, h1, h2⟩ := gP_mem.mp hq
  rw [h2, gV_eq (r := r) (fun a ha => hr a (by subst ha; exact List.mem_of_getElem? h1))]
  exact h.at h1
theorem gA_mem : ∀ (vs : List Value) (j i : Nat) (v : Value), (∀ w ∈ vs, w.category = 1) → vs[i]? = some v → (j + i, v) ∈ lv_args j vs
  | [], j, i, v, _, h => by simp at h
  | w :: vs, j, i, v, hc, h => by
    have hw : w.category = 1 := hc w List.mem_cons_self
    unfold lv_args
    rw [if_neg (by omega)]
    cases i with
    | zero =>
      rw [List.getElem?_cons_zero] at h
      cases h
      exact List.mem_cons_self
    | succ i =>
      rw [List.getElem?_cons_succ] at h
      have := gA_mem vs (j + 1) i v (fun w hw => hc w (List.mem_cons_of_mem _ hw)) h
      rw [show j + (i + 1) = j + 1 + i by omega]
      exact List.mem_cons_of_mem _ this
theorem gA_len (vs : List Value) (hc : ∀ w ∈ vs, w.category = 1) : (lg_sl vs).length = vs.length := by
  unfold lg_sl
  induction vs with
  | nil => rfl
  | cons w vs ih =>
    have hw : w.category = 1 := hc w List.mem_cons_self
    rw [List.flatMap_cons, List.length_append, ih (fun w hw => hc w (List.mem_cons_of_mem _ hw)), if_neg (by omega), List.length_cons]
    simp
    omega
/-- the end of a method: its answer, the memory behind it -/
def gQ (G : gG) (r : Nat → Nat) (Z : Nat → Prop) (post : Option Value → gLy → gMe → Prop) : Array Value → State → Outcome → State → Prop := fun _ _ oc t =>
  ∃ (v : Option Value) (L' : gLy) (M' : gMe) (r' : Nat → Nat), oc = .returned (v.map (gV r')) ∧ post v L' M' ∧ (∀ a, Z a → r' a = r a) ∧ gW G t ∧ gR G r' L' M' t.heap
def gMet (l : Launch) (G : gG) (y : MethodName) (cc : ByteArray) (nL : Nat) (ret : Option FieldType) (rm : Room) (as : List Value) (L : gLy) (M : gMe) (Z : Nat → Prop) (post : Option Value → gLy → gMe → Prop) (mc ms : Nat) : Prop :=
  ∀ r : Nat → Nat, Met l y [.code y cc nL ret] rm (va_Pc (as.map (gV r)) (fun U => gW G U ∧ gR G r L M U.heap)) (gQ G r Z post) mc ms (fun q => G.2.2.1 ≤ q)
def gC (p : Program) (s : State) (m : MethodId) (meth : Method) (c : Code) (y : MethodName) (cc : ByteArray) (nL : Nat) (ret : Option FieldType) : Prop :=
  p.tables.exec = Jvm.exec ∧ c.code = cc ∧ meth.sig.returnType = ret ∧ c.maxLocals = nL ∧ s.vm.findClass y.cls = some m.cls ∧ meth.locks = false ∧ meth.name = y.name
def V (l : Launch) (G : gG) (y : MethodName) (cc : ByteArray) (nL : Nat) (ret : Option FieldType) (R : Room) (mc ms : Nat) (Z : Nat → Prop) (post : Option Value → gLy → gMe → Prop) (L : gLy) (M : gMe) (cells slots : Nat) (lv : List (Option Value)) (pc : Nat) (st : List Value) : Prop :=
  ∀ (p : Program) (e : Env) (s : State) (m : MethodId) (args : Array Value) (below : List Frame) (meth : Method) (c : Code) (r0 r : Nat → Nat) (H : Heap) (locs : List Loc) (ls : Array Slot),
    gC p s m meth c y cc nL ret → (∀ a, Z a → r a = r0 a) → gW G s → gR G r L M H → (∀ q ∈ locs, G.2.2.1 ≤ q.base) → gH ls nL r lv →
    W p l e R s m args below meth c H locs cells slots (MQ below (gQ G r0 Z post) args s mc ms (fun q => G.2.2.1 ≤ q)) (F0 m pc ls (st.map (gV r)))
theorem gMet_of {l : Launch} {G : gG} {y : MethodName} {cc : ByteArray} {nL : Nat} {ret : Option FieldType} {rm : Room} {as : List Value} {L : gLy} {M : gMe} {Z : Nat → Prop} {post : Option Value → gLy → gMe → Prop} {mc ms : Nat} {lv : List (Option Value)}
    (hy : plainName y.cls = true) (hc : as.all (fun v => v.category == 1) = true) (hn : as.length ≤ nL) (hlv : as.map some ++ List.replicate (nL - as.length) none = lv) (h : V l G y cc nL ret rm mc ms Z post L M 0 0 lv 0 []) : gMet l G y cc nL ret rm as L M Z post mc ms := by
  intro r
  refine Met.ofW (cc := cc) (maxL := nL) (ret := ret) hy rfl ?_
  intro p e s m args below meth c s₁ B hml hv
  obtain ⟨rfl, hW, hR⟩ := hv
  have hc1 : ∀ v ∈ as, v.category = 1 := fun v hv => by
    have := List.all_eq_true.mp hc v hv
    simpa using this
  have hc2 : ∀ w ∈ as.map (gV r), w.category = 1 := by
    intro w hw
    obtain ⟨v, hv, rfl⟩ := List.mem_map.mp hw
    rw [gV_cat]; exact hc1 v hv
  have hl := lv_entry (as.map (gV r)) (n := nL) (by rw [gA_len _ hc2, List.length_map]; exact hn)
  rw [lg_entry_eq]
  generalize (lg_sl (as.map (gV r)) ++ List.replicate (nL - (lg_sl (as.map (gV r))).length) Slot.unset).toArray = ls at hl ⊢
  refine h p e s m _ below meth c r r s.heap [] ls ⟨B.exec, B.bytes, B.returns, hml, findClass_of_methodNamed B.named, B.notSynchronized, (name_of_methodNamed B.named B.method).1⟩ (fun _ _ => rfl) hW hR (fun q h => by cases h) ⟨⟨hl.1, hl.2.1, fun q hq => hl.2.2 q ?_⟩, fun v hv => ?_⟩
  · obtain ⟨v, h1, h2⟩ := gP_mem.mp hq
    subst hlv
    by_cases hlt : q.1 < as.length
    · rw [List.getElem?_append_left (by simpa using hlt), List.getElem?_map] at h1
      cases ha : as[q.1]? with
      | none => rw [ha] at h1; cases h1
      | some w =>
        rw [ha] at h1
        cases h1
        have := gA_mem (as.map (gV r)) 0 q.1 (gV r v) hc2 (by rw [List.getElem?_map, ha]; rfl)
        rw [Nat.zero_add] at this
        obtain ⟨q1, q2⟩ := q
        dsimp only at h2 this ⊢
        rw [h2]; exact this
    · rw [List.getElem?_append_right (by simpa using Nat.le_of_not_lt hlt)] at h1
      have := List.mem_of_getElem? h1
      rw [List.mem_replicate] at this
      cases this.2
  · subst hlv
    rcases List.mem_append.mp hv with hv | hv
    · obtain ⟨w, hw, e⟩ := List.mem_map.mp hv
      cases e
      exact hc1 v hw
    · rw [List.mem_replicate] at hv
      cases hv.2
end
section
section gRows
variable {l : Launch} {G : gG} {y : MethodName} {cc : ByteArray} {nL : Nat} {ret : Option FieldType} {R : Room} {mc ms : Nat} {Z : Nat → Prop} {post : Option Value → gLy → gMe → Prop} {L : gLy} {M : gMe} {cells slots : Nat} {lv : List (Option Value)} {pc : Nat} {st : List Value}
theorem V_iconst (q : Nat) {n : Int} {v : Int32} (hv : Int32.ofInt n = v) (d : decode cc pc = .ok (.iconst n, 1)) (hq : pc + 1 = q) (k : V l G y cc nL ret R mc ms Z post L M cells slots lv q (.int v :: st)) : V l G y cc nL ret R mc ms Z post L M cells slots lv pc (st) := by
  subst hq
  intro p e s m args below meth c r0 r H locs ls hC hZ hW hR hlo hls
  exact lv_iconst hC.1 hC.2.1 d hv (k p e s m args below meth c r0 r H locs ls hC hZ hW hR hlo hls)
theorem V_bipush (q : Nat) {n : Int} {v : Int32} (hv : (Int8.ofInt n).toInt32 = v) (d : decode cc pc = .ok (.bipush n, 2)) (hq : pc + 2 = q) (k : V l G y cc nL ret R mc ms Z post L M cells slots lv q (.int v :: st)) : V l G y cc nL ret R mc ms Z post L M cells slots lv pc (st) := by
  subst hq
  intro p e s m args below meth c r0 r H locs ls hC hZ hW hR hlo hls
  exact lv_bipush hC.1 hC.2.1 d hv (k p e s m args below meth c r0 r H locs ls hC hZ hW hR hlo hls)
theorem V_sipush (q : Nat) {n : Int} {v : Int32} (hv : (Int16.ofInt n).toInt32 = v) (d : decode cc pc = .ok (.sipush n, 3)) (hq : pc + 3 = q) (k : V l G y cc nL ret R mc ms Z post L M cells slots lv q (.int v :: st)) : V l G y cc nL ret R mc ms Z post L M cells slots lv pc (st) := by
  subst hq
  intro p e s m args below meth c r0 r H locs ls hC hZ hW hR hlo hls
  exact lv_sipush hC.1 hC.2.1 d hv (k p e s m args below meth c r0 r H locs ls hC hZ hW hR hlo hls)
theorem V_lconst (q : Nat) {n : Fin 2} {v : Int64} (hv : Int64.ofNat (n : Nat) = v) (d : decode cc pc = .ok (.lconst n, 1)) (hq : pc + 1 = q) (k : V l G y cc nL ret R mc ms Z post L M cells slots lv q (.long v :: st)) : V l G y cc nL ret R mc ms Z post L M cells slots lv pc (st) := by
  subst hq
  intro p e s m args below meth c r0 r H locs ls hC hZ hW hR hlo hls
  exact lv_lconst hC.1 hC.2.1 d hv (k p e s m args below meth c r0 r H locs ls hC hZ hW hR hlo hls)
theorem V_ldc (q : Nat) {index : Nat} {v : Int32} (hw : Cond.constant y.cls index v ∈ TB) (d : decode cc pc = .ok (.ldc index, 2)) (hq : pc + 2 = q) (k : V l G y cc nL ret R mc ms Z post L M cells slots lv q (.int v :: st)) : V l G y cc nL ret R mc ms Z post L M cells slots lv pc (st) := by
  subst hq
  intro p e s m args below meth c r0 r H locs ls hC hZ hW hR hlo hls
  exact lv_ldc hC.1 hC.2.1 hC.2.2.2.2.1 (hW.t hw) d (k p e s m args below meth c r0 r H locs ls hC hZ hW hR hlo hls)
theorem V_ldcw (q : Nat) {index : Nat} {v : Int32} (hw : Cond.constant y.cls index v ∈ TB) (d : decode cc pc = .ok (.ldc_w index, 3)) (hq : pc + 3 = q) (k : V l G y cc nL ret R mc ms Z post L M cells slots lv q (.int v :: st)) : V l G y cc nL ret R mc ms Z post L M cells slots lv pc (st) := by
  subst hq
  intro p e s m args below meth c r0 r H locs ls hC hZ hW hR hlo hls
  exact lv_ldcw hC.1 hC.2.1 hC.2.2.2.2.1 (hW.t hw) d (k p e s m args below meth c r0 r H locs ls hC hZ hW hR hlo hls)
theorem V_null (q : Nat)  (d : decode cc pc = .ok (.aconst_null, 1)) (hq : pc + 1 = q) (k : V l G y cc nL ret R mc ms Z post L M cells slots lv q (.null :: st)) : V l G y cc nL ret R mc ms Z post L M cells slots lv pc (st) := by
  subst hq
  intro p e s m args below meth c r0 r H locs ls hC hZ hW hR hlo hls
  exact lv_null hC.1 hC.2.1 d (k p e s m args below meth c r0 r H locs ls hC hZ hW hR hlo hls)
theorem V_iadd (q : Nat) {x z : Int32} (d : decode cc pc = .ok (.iadd, 1)) (hq : pc + 1 = q) (k : V l G y cc nL ret R mc ms Z post L M cells slots lv q (.int (x + z) :: st)) : V l G y cc nL ret R mc ms Z post L M cells slots lv pc (.int z :: .int x :: st) := by
  subst hq
  intro p e s m args below meth c r0 r H locs ls hC hZ hW hR hlo hls
  exact lv_iadd hC.1 hC.2.1 d (k p e s m args below meth c r0 r H locs ls hC hZ hW hR hlo hls)
theorem V_isub (q : Nat) {x z : Int32} (d : decode cc pc = .ok (.isub, 1)) (hq : pc + 1 = q) (k : V l G y cc nL ret R mc ms Z post L M cells slots lv q (.int (x - z) :: st)) : V l G y cc nL ret R mc ms Z post L M cells slots lv pc (.int z :: .int x :: st) := by
  subst hq
  intro p e s m args below meth c r0 r H locs ls hC hZ hW hR hlo hls
  exact lv_isub hC.1 hC.2.1 d (k p e s m args below meth c r0 r H locs ls hC hZ hW hR hlo hls)
theorem V_imul (q : Nat) {x z : Int32} (d : decode cc pc = .ok (.imul, 1)) (hq : pc + 1 = q) (k : V l G y cc nL ret R mc ms Z post L M cells slots lv q (.int (x * z) :: st)) : V l G y cc nL ret R mc ms Z post L M cells slots lv pc (.int z :: .int x :: st) := by
  subst hq
  intro p e s m args below meth c r0 r H locs ls hC hZ hW hR hlo hls
  exact lv_imul hC.1 hC.2.1 d (k p e s m args below meth c r0 r H locs ls hC hZ hW hR hlo hls)
theorem V_iand (q : Nat) {x z : Int32} (d : decode cc pc = .ok (.iand, 1)) (hq : pc + 1 = q) (k : V l G y cc nL ret R mc ms Z post L M cells slots lv q (.int (x &&& z) :: st)) : V l G y cc nL ret R mc ms Z post L M cells slots lv pc (.int z :: .int x :: st) := by
  subst hq
  intro p e s m args below meth c r0 r H locs ls hC hZ hW hR hlo hls
  exact lv_iand hC.1 hC.2.1 d (k p e s m args below meth c r0 r H locs ls hC hZ hW hR hlo hls)
theorem V_ior (q : Nat) {x z : Int32} (d : decode cc pc = .ok (.ior, 1)) (hq : pc + 1 = q) (k : V l G y cc nL ret R mc ms Z post L M cells slots lv q (.int (x ||| z) :: st)) : V l G y cc nL ret R mc ms Z post L M cells slots lv pc (.int z :: .int x :: st) := by
  subst hq
  intro p e s m args below meth c r0 r H locs ls hC hZ hW hR hlo hls
  exact lv_ior hC.1 hC.2.1 d (k p e s m args below meth c r0 r H locs ls hC hZ hW hR hlo hls)
theorem V_ixor (q : Nat) {x z : Int32} (d : decode cc pc = .ok (.ixor, 1)) (hq : pc + 1 = q) (k : V l G y cc nL ret R mc ms Z post L M cells slots lv q (.int (x ^^^ z) :: st)) : V l G y cc nL ret R mc ms Z post L M cells slots lv pc (.int z :: .int x :: st) := by
  subst hq
  intro p e s m args below meth c r0 r H locs ls hC hZ hW hR hlo hls
  exact lv_ixor hC.1 hC.2.1 d (k p e s m args below meth c r0 r H locs ls hC hZ hW hR hlo hls)
theorem V_ishl (q : Nat) {x z : Int32} (d : decode cc pc = .ok (.ishl, 1)) (hq : pc + 1 = q) (k : V l G y cc nL ret R mc ms Z post L M cells slots lv q (.int (x <<< (z &&& 31)) :: st)) : V l G y cc nL ret R mc ms Z post L M cells slots lv pc (.int z :: .int x :: st) := by
  subst hq
  intro p e s m args below meth c r0 r H locs ls hC hZ hW hR hlo hls
  exact lv_ishl hC.1 hC.2.1 d (k p e s m args below meth c r0 r H locs ls hC hZ hW hR hlo hls)
theorem V_ishr (q : Nat) {x z : Int32} (d : decode cc pc = .ok (.ishr, 1)) (hq : pc + 1 = q) (k : V l G y cc nL ret R mc ms Z post L M cells slots lv q (.int (x >>> (z &&& 31)) :: st)) : V l G y cc nL ret R mc ms Z post L M cells slots lv pc (.int z :: .int x :: st) := by
  subst hq
  intro p e s m args below meth c r0 r H locs ls hC hZ hW hR hlo hls
  exact lv_ishr hC.1 hC.2.1 d (k p e s m args below meth c r0 r H locs ls hC hZ hW hR hlo hls)
theorem V_iushr (q : Nat) {x z : Int32} (d : decode cc pc = .ok (.iushr, 1)) (hq : pc + 1 = q) (k : V l G y cc nL ret R mc ms Z post L M cells slots lv q (.int ((x.toUInt32 >>> (z.toUInt32 &&& Int32.toUInt32 31)).toInt32) :: st)) : V l G y cc nL ret R mc ms Z post L M cells slots lv pc (.int z :: .int x :: st) := by
  subst hq
  intro p e s m args below meth c r0 r H locs ls hC hZ hW hR hlo hls
  exact lv_iushr hC.1 hC.2.1 d rfl (k p e s m args below meth c r0 r H locs ls hC hZ hW hR hlo hls)
theorem V_ineg (q : Nat) {x : Int32} (d : decode cc pc = .ok (.ineg, 1)) (hq : pc + 1 = q) (k : V l G y cc nL ret R mc ms Z post L M cells slots lv q (.int (-x) :: st)) : V l G y cc nL ret R mc ms Z post L M cells slots lv pc (.int x :: st) := by
  subst hq
  intro p e s m args below meth c r0 r H locs ls hC hZ hW hR hlo hls
  exact lv_ineg hC.1 hC.2.1 d (k p e s m args below meth c r0 r H locs ls hC hZ hW hR hlo hls)
theorem V_i2l (q : Nat) {x : Int32} (d : decode cc pc = .ok (.i2l, 1)) (hq : pc + 1 = q) (k : V l G y cc nL ret R mc ms Z post L M cells slots lv q (.long x.toInt64 :: st)) : V l G y cc nL ret R mc ms Z post L M cells slots lv pc (.int x :: st) := by
  subst hq
  intro p e s m args below meth c r0 r H locs ls hC hZ hW hR hlo hls
  exact lv_i2l hC.1 hC.2.1 d rfl (k p e s m args below meth c r0 r H locs ls hC hZ hW hR hlo hls)
theorem V_lcmp (q : Nat) {x z : Int64} (d : decode cc pc = .ok (.lcmp, 1)) (hq : pc + 1 = q) (k : V l G y cc nL ret R mc ms Z post L M cells slots lv q (.int (lg_cmp x z) :: st)) : V l G y cc nL ret R mc ms Z post L M cells slots lv pc (.long z :: .long x :: st) := by
  subst hq
  intro p e s m args below meth c r0 r H locs ls hC hZ hW hR hlo hls
  exact W.lcmp hC.1 hC.2.1 d (k p e s m args below meth c r0 r H locs ls hC hZ hW hR hlo hls)
theorem V_dup (q : Nat) {a : Value} (ha : a.category = 1) (d : decode cc pc = .ok (.dup, 1)) (hq : pc + 1 = q) (k : V l G y cc nL ret R mc ms Z post L M cells slots lv q (a :: a :: st)) : V l G y cc nL ret R mc ms Z post L M cells slots lv pc (a :: st) := by
  subst hq
  intro p e s m args below meth c r0 r H locs ls hC hZ hW hR hlo hls
  exact lv_dup hC.1 hC.2.1 d (by rw [gV_cat]; exact ha) (k p e s m args below meth c r0 r H locs ls hC hZ hW hR hlo hls)
theorem V_pop (q : Nat) {a : Value} (ha : a.category = 1) (d : decode cc pc = .ok (.pop, 1)) (hq : pc + 1 = q) (k : V l G y cc nL ret R mc ms Z post L M cells slots lv q (st)) : V l G y cc nL ret R mc ms Z post L M cells slots lv pc (a :: st) := by
  subst hq
  intro p e s m args below meth c r0 r H locs ls hC hZ hW hR hlo hls
  exact lv_pop hC.1 hC.2.1 d (by rw [gV_cat]; exact ha) (k p e s m args below meth c r0 r H locs ls hC hZ hW hR hlo hls)
theorem V_dup_x1 (q : Nat) {a b : Value} (ha : a.category = 1) (hb : b.category = 1) (d : decode cc pc = .ok (.dup_x1, 1)) (hq : pc + 1 = q) (k : V l G y cc nL ret R mc ms Z post L M cells slots lv q (a :: b :: a :: st)) : V l G y cc nL ret R mc ms Z post L M cells slots lv pc (a :: b :: st) := by
  subst hq
  intro p e s m args below meth c r0 r H locs ls hC hZ hW hR hlo hls
  exact lv_dup_x1 hC.1 hC.2.1 d (by rw [gV_cat]; exact ha) (by rw [gV_cat]; exact hb) (k p e s m args below meth c r0 r H locs ls hC hZ hW hR hlo hls)
theorem V_dup_x2 (q : Nat) {a b z : Value} (ha : a.category = 1) (hb : b.category = 1) (hz : z.category = 1) (d : decode cc pc = .ok (.dup_x2, 1)) (hq : pc + 1 = q) (k : V l G y cc nL ret R mc ms Z post L M cells slots lv q (a :: b :: z :: a :: st)) : V l G y cc nL ret R mc ms Z post L M cells slots lv pc (a :: b :: z :: st) := by
  subst hq
  intro p e s m args below meth c r0 r H locs ls hC hZ hW hR hlo hls
  exact lv_dup_x2 hC.1 hC.2.1 d (by rw [gV_cat]; exact ha) (by rw [gV_cat]; exact hb) (by rw [gV_cat]; exact hz) (k p e s m args below meth c r0 r H locs ls hC hZ hW hR hlo hls)
theorem V_dup2 (q : Nat) {a b : Value} (ha : a.category = 1) (hb : b.category = 1) (d : decode cc pc = .ok (.dup2, 1)) (hq : pc + 1 = q) (k : V l G y cc nL ret R mc ms Z post L M cells slots lv q (a :: b :: a :: b :: st)) : V l G y cc nL ret R mc ms Z post L M cells slots lv pc (a :: b :: st) := by
  subst hq
  intro p e s m args below meth c r0 r H locs ls hC hZ hW hR hlo hls
  exact lv_dup2_11 hC.1 hC.2.1 d (by rw [gV_cat]; exact ha) (by rw [gV_cat]; exact hb) (k p e s m args below meth c r0 r H locs ls hC hZ hW hR hlo hls)
theorem V_if_eq (t q : Nat) {x : Int32} {off : Int} (d : decode cc pc = .ok (.ifCond .eq off, 3)) (ht : (pc : Int) + off = (t : Int)) (hq : pc + 3 = q) (kt : x = 0 → V l G y cc nL ret R mc ms Z post L M cells slots lv t st) (kf : ¬ x = 0 → V l G y cc nL ret R mc ms Z post L M cells slots lv q st) : V l G y cc nL ret R mc ms Z post L M cells slots lv pc (.int x :: st) := by
  subst hq
  intro p e s m args below meth c r0 r H locs ls hC hZ hW hR hlo hls
  exact lv_if_eq hC.1 hC.2.1 d ht (fun h => kt h p e s m args below meth c r0 r H locs ls hC hZ hW hR hlo hls) (fun h => kf h p e s m args below meth c r0 r H locs ls hC hZ hW hR hlo hls)
theorem V_icmp_eq (t q : Nat) {x z : Int32} {off : Int} (d : decode cc pc = .ok (.if_icmp .eq off, 3)) (ht : (pc : Int) + off = (t : Int)) (hq : pc + 3 = q) (kt : x = z → V l G y cc nL ret R mc ms Z post L M cells slots lv t st) (kf : ¬ x = z → V l G y cc nL ret R mc ms Z post L M cells slots lv q st) : V l G y cc nL ret R mc ms Z post L M cells slots lv pc (.int z :: .int x :: st) := by
  subst hq
  intro p e s m args below meth c r0 r H locs ls hC hZ hW hR hlo hls
  exact lv_icmp_eq hC.1 hC.2.1 d ht (fun h => kt h p e s m args below meth c r0 r H locs ls hC hZ hW hR hlo hls) (fun h => kf h p e s m args below meth c r0 r H locs ls hC hZ hW hR hlo hls)
theorem V_if_ne (t q : Nat) {x : Int32} {off : Int} (d : decode cc pc = .ok (.ifCond .ne off, 3)) (ht : (pc : Int) + off = (t : Int)) (hq : pc + 3 = q) (kt : ¬ x = 0 → V l G y cc nL ret R mc ms Z post L M cells slots lv t st) (kf : x = 0 → V l G y cc nL ret R mc ms Z post L M cells slots lv q st) : V l G y cc nL ret R mc ms Z post L M cells slots lv pc (.int x :: st) := by
  subst hq
  intro p e s m args below meth c r0 r H locs ls hC hZ hW hR hlo hls
  exact lv_if_ne hC.1 hC.2.1 d ht (fun h => kt h p e s m args below meth c r0 r H locs ls hC hZ hW hR hlo hls) (fun h => kf h p e s m args below meth c r0 r H locs ls hC hZ hW hR hlo hls)
theorem V_icmp_ne (t q : Nat) {x z : Int32} {off : Int} (d : decode cc pc = .ok (.if_icmp .ne off, 3)) (ht : (pc : Int) + off = (t : Int)) (hq : pc + 3 = q) (kt : ¬ x = z → V l G y cc nL ret R mc ms Z post L M cells slots lv t st) (kf : x = z → V l G y cc nL ret R mc ms Z post L M cells slots lv q st) : V l G y cc nL ret R mc ms Z post L M cells slots lv pc (.int z :: .int x :: st) := by
  subst hq
  intro p e s m args below meth c r0 r H locs ls hC hZ hW hR hlo hls
  exact lv_icmp_ne hC.1 hC.2.1 d ht (fun h => kt h p e s m args below meth c r0 r H locs ls hC hZ hW hR hlo hls) (fun h => kf h p e s m args below meth c r0 r H locs ls hC hZ hW hR hlo hls)
theorem V_if_lt (t q : Nat) {x : Int32} {off : Int} (d : decode cc pc = .ok (.ifCond .lt off, 3)) (ht : (pc : Int) + off = (t : Int)) (hq : pc + 3 = q) (kt : x < 0 → V l G y cc nL ret R mc ms Z post L M cells slots lv t st) (kf : ¬ x < 0 → V l G y cc nL ret R mc ms Z post L M cells slots lv q st) : V l G y cc nL ret R mc ms Z post L M cells slots lv pc (.int x :: st) := by
  subst hq
  intro p e s m args below meth c r0 r H locs ls hC hZ hW hR hlo hls
  exact lv_if_lt hC.1 hC.2.1 d ht (fun h => kt h p e s m args below meth c r0 r H locs ls hC hZ hW hR hlo hls) (fun h => kf h p e s m args below meth c r0 r H locs ls hC hZ hW hR hlo hls)
theorem V_icmp_lt (t q : Nat) {x z : Int32} {off : Int} (d : decode cc pc = .ok (.if_icmp .lt off, 3)) (ht : (pc : Int) + off = (t : Int)) (hq : pc + 3 = q) (kt : x < z → V l G y cc nL ret R mc ms Z post L M cells slots lv t st) (kf : ¬ x < z → V l G y cc nL ret R mc ms Z post L M cells slots lv q st) : V l G y cc nL ret R mc ms Z post L M cells slots lv pc (.int z :: .int x :: st) := by
  subst hq
  intro p e s m args below meth c r0 r H locs ls hC hZ hW hR hlo hls
  exact lv_icmp_lt hC.1 hC.2.1 d ht (fun h => kt h p e s m args below meth c r0 r H locs ls hC hZ hW hR hlo hls) (fun h => kf h p e s m args below meth c r0 r H locs ls hC hZ hW hR hlo hls)
theorem V_if_ge (t q : Nat) {x : Int32} {off : Int} (d : decode cc pc = .ok (.ifCond .ge off, 3)) (ht : (pc : Int) + off = (t : Int)) (hq : pc + 3 = q) (kt : 0 ≤ x → V l G y cc nL ret R mc ms Z post L M cells slots lv t st) (kf : ¬ 0 ≤ x → V l G y cc nL ret R mc ms Z post L M cells slots lv q st) : V l G y cc nL ret R mc ms Z post L M cells slots lv pc (.int x :: st) := by
  subst hq
  intro p e s m args below meth c r0 r H locs ls hC hZ hW hR hlo hls
  exact lv_if_ge hC.1 hC.2.1 d ht (fun h => kt h p e s m args below meth c r0 r H locs ls hC hZ hW hR hlo hls) (fun h => kf h p e s m args below meth c r0 r H locs ls hC hZ hW hR hlo hls)
theorem V_icmp_ge (t q : Nat) {x z : Int32} {off : Int} (d : decode cc pc = .ok (.if_icmp .ge off, 3)) (ht : (pc : Int) + off = (t : Int)) (hq : pc + 3 = q) (kt : z ≤ x → V l G y cc nL ret R mc ms Z post L M cells slots lv t st) (kf : ¬ z ≤ x → V l G y cc nL ret R mc ms Z post L M cells slots lv q st) : V l G y cc nL ret R mc ms Z post L M cells slots lv pc (.int z :: .int x :: st) := by
  subst hq
  intro p e s m args below meth c r0 r H locs ls hC hZ hW hR hlo hls
  exact lv_icmp_ge hC.1 hC.2.1 d ht (fun h => kt h p e s m args below meth c r0 r H locs ls hC hZ hW hR hlo hls) (fun h => kf h p e s m args below meth c r0 r H locs ls hC hZ hW hR hlo hls)
theorem V_if_gt (t q : Nat) {x : Int32} {off : Int} (d : decode cc pc = .ok (.ifCond .gt off, 3)) (ht : (pc : Int) + off = (t : Int)) (hq : pc + 3 = q) (kt : 0 < x → V l G y cc nL ret R mc ms Z post L M cells slots lv t st) (kf : ¬ 0 < x → V l G y cc nL ret R mc ms Z post L M cells slots lv q st) : V l G y cc nL ret R mc ms Z post L M cells slots lv pc (.int x :: st) := by
  subst hq
  intro p e s m args below meth c r0 r H locs ls hC hZ hW hR hlo hls
  exact lv_if_gt hC.1 hC.2.1 d ht (fun h => kt h p e s m args below meth c r0 r H locs ls hC hZ hW hR hlo hls) (fun h => kf h p e s m args below meth c r0 r H locs ls hC hZ hW hR hlo hls)
theorem V_icmp_gt (t q : Nat) {x z : Int32} {off : Int} (d : decode cc pc = .ok (.if_icmp .gt off, 3)) (ht : (pc : Int) + off = (t : Int)) (hq : pc + 3 = q) (kt : z < x → V l G y cc nL ret R mc ms Z post L M cells slots lv t st) (kf : ¬ z < x → V l G y cc nL ret R mc ms Z post L M cells slots lv q st) : V l G y cc nL ret R mc ms Z post L M cells slots lv pc (.int z :: .int x :: st) := by
  subst hq
  intro p e s m args below meth c r0 r H locs ls hC hZ hW hR hlo hls
  exact lv_icmp_gt hC.1 hC.2.1 d ht (fun h => kt h p e s m args below meth c r0 r H locs ls hC hZ hW hR hlo hls) (fun h => kf h p e s m args below meth c r0 r H locs ls hC hZ hW hR hlo hls)
theorem V_if_le (t q : Nat) {x : Int32} {off : Int} (d : decode cc pc = .ok (.ifCond .le off, 3)) (ht : (pc : Int) + off = (t : Int)) (hq : pc + 3 = q) (kt : x ≤ 0 → V l G y cc nL ret R mc ms Z post L M cells slots lv t st) (kf : ¬ x ≤ 0 → V l G y cc nL ret R mc ms Z post L M cells slots lv q st) : V l G y cc nL ret R mc ms Z post L M cells slots lv pc (.int x :: st) := by
  subst hq
  intro p e s m args below meth c r0 r H locs ls hC hZ hW hR hlo hls
  exact lv_if_le hC.1 hC.2.1 d ht (fun h => kt h p e s m args below meth c r0 r H locs ls hC hZ hW hR hlo hls) (fun h => kf h p e s m args below meth c r0 r H locs ls hC hZ hW hR hlo hls)
theorem V_icmp_le (t q : Nat) {x z : Int32} {off : Int} (d : decode cc pc = .ok (.if_icmp .le off, 3)) (ht : (pc : Int) + off = (t : Int)) (hq : pc + 3 = q) (kt : x ≤ z → V l G y cc nL ret R mc ms Z post L M cells slots lv t st) (kf : ¬ x ≤ z → V l G y cc nL ret R mc ms Z post L M cells slots lv q st) : V l G y cc nL ret R mc ms Z post L M cells slots lv pc (.int z :: .int x :: st) := by
  subst hq
  intro p e s m args below meth c r0 r H locs ls hC hZ hW hR hlo hls
  exact lv_icmp_le hC.1 hC.2.1 d ht (fun h => kt h p e s m args below meth c r0 r H locs ls hC hZ hW hR hlo hls) (fun h => kf h p e s m args below meth c r0 r H locs ls hC hZ hW hR hlo hls)
theorem V_goto (t : Nat) {off : Int} (d : decode cc pc = .ok (.goto off, 3)) (ht : (pc : Int) + off = (t : Int)) (k : V l G y cc nL ret R mc ms Z post L M cells slots lv t st) : V l G y cc nL ret R mc ms Z post L M cells slots lv pc st := by
  intro p e s m args below meth c r0 r H locs ls hC hZ hW hR hlo hls
  exact lv_goto hC.1 hC.2.1 d ht (k p e s m args below meth c r0 r H locs ls hC hZ hW hR hlo hls)
theorem V_nn (t : Nat) {off : Int} {a : Nat} (d : decode cc pc = .ok (.ifnonnull off, 3)) (ht : (pc : Int) + off = (t : Int)) (k : V l G y cc nL ret R mc ms Z post L M cells slots lv t st) : V l G y cc nL ret R mc ms Z post L M cells slots lv pc (.ref a :: st) := by
  intro p e s m args below meth c r0 r H locs ls hC hZ hW hR hlo hls
  exact lv_ifnonnull hC.1 hC.2.1 d ht (k p e s m args below meth c r0 r H locs ls hC hZ hW hR hlo hls)
theorem V_nnN (q : Nat) {off : Int} (d : decode cc pc = .ok (.ifnonnull off, 3)) (hq : pc + 3 = q) (k : V l G y cc nL ret R mc ms Z post L M cells slots lv q st) : V l G y cc nL ret R mc ms Z post L M cells slots lv pc (.null :: st) := by
  subst hq
  intro p e s m args below meth c r0 r H locs ls hC hZ hW hR hlo hls
  exact lv_ifnonnullN hC.1 hC.2.1 d (k p e s m args below meth c r0 r H locs ls hC hZ hW hR hlo hls)
theorem V_nul (q : Nat) {off : Int} {a : Nat} (d : decode cc pc = .ok (.ifnull off, 3)) (hq : pc + 3 = q) (k : V l G y cc nL ret R mc ms Z post L M cells slots lv q st) : V l G y cc nL ret R mc ms Z post L M cells slots lv pc (.ref a :: st) := by
  subst hq
  intro p e s m args below meth c r0 r H locs ls hC hZ hW hR hlo hls
  exact lv_ifnull hC.1 hC.2.1 d (k p e s m args below meth c r0 r H locs ls hC hZ hW hR hlo hls)
theorem V_nulN (t : Nat) {off : Int} (d : decode cc pc = .ok (.ifnull off, 3)) (ht : (pc : Int) + off = (t : Int)) (k : V l G y cc nL ret R mc ms Z post L M cells slots lv t st) : V l G y cc nL ret R mc ms Z post L M cells slots lv pc (.null :: st) := by
  intro p e s m args below meth c r0 r H locs ls hC hZ hW hR hlo hls
  exact lv_ifnullN hC.1 hC.2.1 d ht (k p e s m args below meth c r0 r H locs ls hC hZ hW hR hlo hls)
theorem V_tabOut (t : Nat) {dflt lo hi : Int} {offs : Array Int} {len : Nat} {x : Int32} (d : decode cc pc = .ok (.tableswitch dflt lo hi offs, len)) (h : x.toInt < lo ∨ hi < x.toInt) (ht : (pc : Int) + dflt = (t : Int)) (k : V l G y cc nL ret R mc ms Z post L M cells slots lv t st) : V l G y cc nL ret R mc ms Z post L M cells slots lv pc (.int x :: st) := by
  intro p e s m args below meth c r0 r H locs ls hC hZ hW hR hlo hls
  exact lv_tableOut hC.1 hC.2.1 d h ht (k p e s m args below meth c r0 r H locs ls hC hZ hW hR hlo hls)
theorem V_tabIn (t : Nat) {dflt lo hi : Int} {offs : Array Int} {len : Nat} {x : Int32} {off : Int} (d : decode cc pc = .ok (.tableswitch dflt lo hi offs, len)) (h1 : ¬ x.toInt < lo) (h2 : ¬ hi < x.toInt) (ho : offs[(x.toInt - lo).toNat]? = some off) (ht : (pc : Int) + off = (t : Int)) (k : V l G y cc nL ret R mc ms Z post L M cells slots lv t st) : V l G y cc nL ret R mc ms Z post L M cells slots lv pc (.int x :: st) := by
  intro p e s m args below meth c r0 r H locs ls hC hZ hW hR hlo hls
  exact lv_tableIn hC.1 hC.2.1 d h1 h2 ho ht (k p e s m args below meth c r0 r H locs ls hC hZ hW hR hlo hls)
theorem V_il0 (q : Nat) {t : List (Option Value)} {x : Int32} (d : decode cc pc = .ok (.iload_n 0, 1)) (hq : pc + 1 = q) (k : V l G y cc nL ret R mc ms Z post L M cells slots (some (.int x) :: t) q (.int x :: st)) : V l G y cc nL ret R mc ms Z post L M cells slots (some (.int x) :: t) pc (st) := by
  subst hq
  intro p e s m args below meth c r0 r H locs ls hC hZ hW hR hlo hls
  exact lv_iload_n hC.1 hC.2.1 d rfl (hls.at (i := 0) rfl) (k p e s m args below meth c r0 r H locs ls hC hZ hW hR hlo hls)
theorem V_al0 (q : Nat) {t : List (Option Value)} {x : Nat} (d : decode cc pc = .ok (.aload_n 0, 1)) (hq : pc + 1 = q) (k : V l G y cc nL ret R mc ms Z post L M cells slots (some (.ref x) :: t) q (.ref x :: st)) : V l G y cc nL ret R mc ms Z post L M cells slots (some (.ref x) :: t) pc (st) := by
  subst hq
  intro p e s m args below meth c r0 r H locs ls hC hZ hW hR hlo hls
  exact lv_aload_n hC.1 hC.2.1 d rfl (hls.at (i := 0) rfl) (k p e s m args below meth c r0 r H locs ls hC hZ hW hR hlo hls)
theorem V_an0 (q : Nat) {t : List (Option Value)}  (d : decode cc pc = .ok (.aload_n 0, 1)) (hq : pc + 1 = q) (k : V l G y cc nL ret R mc ms Z post L M cells slots (some (.null) :: t) q (.null :: st)) : V l G y cc nL ret R mc ms Z post L M cells slots (some (.null) :: t) pc (st) := by
  subst hq
  intro p e s m args below meth c r0 r H locs ls hC hZ hW hR hlo hls
  exact lv_aload_nN hC.1 hC.2.1 d rfl (hls.at (i := 0) rfl) (k p e s m args below meth c r0 r H locs ls hC hZ hW hR hlo hls)
theorem V_is0 (q : Nat) {b : Option Value} {t : List (Option Value)} {x : Int32} (d : decode cc pc = .ok (.istore_n 0, 1)) (hn : 0 < nL) (hq : pc + 1 = q) (k : V l G y cc nL ret R mc ms Z post L M cells slots (some (.int x) :: t) q st) : V l G y cc nL ret R mc ms Z post L M cells slots (b :: t) pc (.int x :: st) := by
  subst hq
  intro p e s m args below meth c r0 r H locs ls hC hZ hW hR hlo hls
  exact lv_istore_n hC.1 hC.2.1 d rfl hls.1 hn rfl (fun ls' h' => k p e s m args below meth c r0 r H locs ls' hC hZ hW hR hlo (gH.set (i := 0) (v := .int x) hls.2 rfl h'))
theorem V_as0 (q : Nat) {b : Option Value} {t : List (Option Value)} {x : Nat} (d : decode cc pc = .ok (.astore_n 0, 1)) (hn : 0 < nL) (hq : pc + 1 = q) (k : V l G y cc nL ret R mc ms Z post L M cells slots (some (.ref x) :: t) q st) : V l G y cc nL ret R mc ms Z post L M cells slots (b :: t) pc (.ref x :: st) := by
  subst hq
  intro p e s m args below meth c r0 r H locs ls hC hZ hW hR hlo hls
  exact lv_astore_n hC.1 hC.2.1 d rfl hls.1 hn rfl (fun ls' h' => k p e s m args below meth c r0 r H locs ls' hC hZ hW hR hlo (gH.set (i := 0) (v := .ref x) hls.2 rfl h'))
theorem V_az0 (q : Nat) {b : Option Value} {t : List (Option Value)}  (d : decode cc pc = .ok (.astore_n 0, 1)) (hn : 0 < nL) (hq : pc + 1 = q) (k : V l G y cc nL ret R mc ms Z post L M cells slots (some (.null) :: t) q st) : V l G y cc nL ret R mc ms Z post L M cells slots (b :: t) pc (.null :: st) := by
  subst hq
  intro p e s m args below meth c r0 r H locs ls hC hZ hW hR hlo hls
  exact lv_astore_nN hC.1 hC.2.1 d rfl hls.1 hn rfl (fun ls' h' => k p e s m args below meth c r0 r H locs ls' hC hZ hW hR hlo (gH.set (i := 0) (v := .null) hls.2 rfl h'))
theorem V_ii0 (q : Nat) {t : List (Option Value)} {x v : Int32} {n : Int} (d : decode cc pc = .ok (.iinc 0 n, 3)) (hn : 0 < nL) (hv : Int32.ofInt n = v) (hq : pc + 3 = q) (k : V l G y cc nL ret R mc ms Z post L M cells slots (some (.int (x + v)) :: t) q st) : V l G y cc nL ret R mc ms Z post L M cells slots (some (.int x) :: t) pc st := by
  subst hq
  subst hv
  intro p e s m args below meth c r0 r H locs ls hC hZ hW hR hlo hls
  obtain ⟨k9, hk9⟩ := List.getElem?_of_mem (gP_mem.mpr ⟨.int x, rfl, rfl⟩ : (0, Value.int x) ∈ gP r (some (.int x) :: t))
  exact lv_iinc hC.1 hC.2.1 d hls.1 hk9 rfl hn rfl (fun ls' h' => k p e s m args below meth c r0 r H locs ls' hC hZ hW hR hlo (gH.set (i := 0) (v := .int (x + Int32.ofInt n)) hls.2 rfl h'))
theorem V_il1 (q : Nat) {a0 : Option Value} {t : List (Option Value)} {x : Int32} (d : decode cc pc = .ok (.iload_n 1, 1)) (hq : pc + 1 = q) (k : V l G y cc nL ret R mc ms Z post L M cells slots (a0 :: some (.int x) :: t) q (.int x :: st)) : V l G y cc nL ret R mc ms Z post L M cells slots (a0 :: some (.int x) :: t) pc (st) := by
  subst hq
  intro p e s m args below meth c r0 r H locs ls hC hZ hW hR hlo hls
  exact lv_iload_n hC.1 hC.2.1 d rfl (hls.at (i := 1) rfl) (k p e s m args below meth c r0 r H locs ls hC hZ hW hR hlo hls)
theorem V_al1 (q : Nat) {a0 : Option Value} {t : List (Option Value)} {x : Nat} (d : decode cc pc = .ok (.aload_n 1, 1)) (hq : pc + 1 = q) (k : V l G y cc nL ret R mc ms Z post L M cells slots (a0 :: some (.ref x) :: t) q (.ref x :: st)) : V l G y cc nL ret R mc ms Z post L M cells slots (a0 :: some (.ref x) :: t) pc (st) := by
  subst hq
  intro p e s m args below meth c r0 r H locs ls hC hZ hW hR hlo hls
  exact lv_aload_n hC.1 hC.2.1 d rfl (hls.at (i := 1) rfl) (k p e s m args below meth c r0 r H locs ls hC hZ hW hR hlo hls)
theorem V_an1 (q : Nat) {a0 : Option Value} {t : List (Option Value)}  (d : decode cc pc = .ok (.aload_n 1, 1)) (hq : pc + 1 = q) (k : V l G y cc nL ret R mc ms Z post L M cells slots (a0 :: some (.null) :: t) q (.null :: st)) : V l G y cc nL ret R mc ms Z post L M cells slots (a0 :: some (.null) :: t) pc (st) := by
  subst hq
  intro p e s m args below meth c r0 r H locs ls hC hZ hW hR hlo hls
  exact lv_aload_nN hC.1 hC.2.1 d rfl (hls.at (i := 1) rfl) (k p e s m args below meth c r0 r H locs ls hC hZ hW hR hlo hls)
theorem V_is1 (q : Nat) {a0 b : Option Value} {t : List (Option Value)} {x : Int32} (d : decode cc pc = .ok (.istore_n 1, 1)) (hn : 1 < nL) (hq : pc + 1 = q) (k : V l G y cc nL ret R mc ms Z post L M cells slots (a0 :: some (.int x) :: t) q st) : V l G y cc nL ret R mc ms Z post L M cells slots (a0 :: b :: t) pc (.int x :: st) := by
  subst hq
  intro p e s m args below meth c r0 r H locs ls hC hZ hW hR hlo hls
  exact lv_istore_n hC.1 hC.2.1 d rfl hls.1 hn rfl (fun ls' h' => k p e s m args below meth c r0 r H locs ls' hC hZ hW hR hlo (gH.set (i := 1) (v := .int x) hls.2 rfl h'))
theorem V_as1 (q : Nat) {a0 b : Option Value} {t : List (Option Value)} {x : Nat} (d : decode cc pc = .ok (.astore_n 1, 1)) (hn : 1 < nL) (hq : pc + 1 = q) (k : V l G y cc nL ret R mc ms Z post L M cells slots (a0 :: some (.ref x) :: t) q st) : V l G y cc nL ret R mc ms Z post L M cells slots (a0 :: b :: t) pc (.ref x :: st) := by
  subst hq
  intro p e s m args below meth c r0 r H locs ls hC hZ hW hR hlo hls
  exact lv_astore_n hC.1 hC.2.1 d rfl hls.1 hn rfl (fun ls' h' => k p e s m args below meth c r0 r H locs ls' hC hZ hW hR hlo (gH.set (i := 1) (v := .ref x) hls.2 rfl h'))
theorem V_az1 (q : Nat) {a0 b : Option Value} {t : List (Option Value)}  (d : decode cc pc = .ok (.astore_n 1, 1)) (hn : 1 < nL) (hq : pc + 1 = q) (k : V l G y cc nL ret R mc ms Z post L M cells slots (a0 :: some (.null) :: t) q st) : V l G y cc nL ret R mc ms Z post L M cells slots (a0 :: b :: t) pc (.null :: st) := by
  subst hq
  intro p e s m args below meth c r0 r H locs ls hC hZ hW hR hlo hls
  exact lv_astore_nN hC.1 hC.2.1 d rfl hls.1 hn rfl (fun ls' h' => k p e s m args below meth c r0 r H locs ls' hC hZ hW hR hlo (gH.set (i := 1) (v := .null) hls.2 rfl h'))
theorem V_ii1 (q : Nat) {a0 : Option Value} {t : List (Option Value)} {x v : Int32} {n : Int} (d : decode cc pc = .ok (.iinc 1 n, 3)) (hn : 1 < nL) (hv : Int32.ofInt n = v) (hq : pc + 3 = q) (k : V l G y cc nL ret R mc ms Z post L M cells slots (a0 :: some (.int (x + v)) :: t) q st) : V l G y cc nL ret R mc ms Z post L M cells slots (a0 :: some (.int x) :: t) pc st := by
  subst hq
  subst hv
  intro p e s m args below meth c r0 r H locs ls hC hZ hW hR hlo hls
  obtain ⟨k9, hk9⟩ := List.getElem?_of_mem (gP_mem.mpr ⟨.int x, rfl, rfl⟩ : (1, Value.int x) ∈ gP r (a0 :: some (.int x) :: t))
  exact lv_iinc hC.1 hC.2.1 d hls.1 hk9 rfl hn rfl (fun ls' h' => k p e s m args below meth c r0 r H locs ls' hC hZ hW hR hlo (gH.set (i := 1) (v := .int (x + Int32.ofInt n)) hls.2 rfl h'))
theorem V_il2 (q : Nat) {a0 a1 : Option Value} {t : List (Option Value)} {x : Int32} (d : decode cc pc = .ok (.iload_n 2, 1)) (hq : pc + 1 = q) (k : V l G y cc nL ret R mc ms Z post L M cells slots (a0 :: a1 :: some (.int x) :: t) q (.int x :: st)) : V l G y cc nL ret R mc ms Z post L M cells slots (a0 :: a1 :: some (.int x) :: t) pc (st) := by
  subst hq
  intro p e s m args below meth c r0 r H locs ls hC hZ hW hR hlo hls
  exact lv_iload_n hC.1 hC.2.1 d rfl (hls.at (i := 2) rfl) (k p e s m args below meth c r0 r H locs ls hC hZ hW hR hlo hls)
theorem V_al2 (q : Nat) {a0 a1 : Option Value} {t : List (Option Value)} {x : Nat} (d : decode cc pc = .ok (.aload_n 2, 1)) (hq : pc + 1 = q) (k : V l G y cc nL ret R mc ms Z post L M cells slots (a0 :: a1 :: some (.ref x) :: t) q (.ref x :: st)) : V l G y cc nL ret R mc ms Z post L M cells slots (a0 :: a1 :: some (.ref x) :: t) pc (st) := by
  subst hq
  intro p e s m args below meth c r0 r H locs ls hC hZ hW hR hlo hls
  exact lv_aload_n hC.1 hC.2.1 d rfl (hls.at (i := 2) rfl) (k p e s m args below meth c r0 r H locs ls hC hZ hW hR hlo hls)
theorem V_an2 (q : Nat) {a0 a1 : Option Value} {t : List (Option Value)}  (d : decode cc pc = .ok (.aload_n 2, 1)) (hq : pc + 1 = q) (k : V l G y cc nL ret R mc ms Z post L M cells slots (a0 :: a1 :: some (.null) :: t) q (.null :: st)) : V l G y cc nL ret R mc ms Z post L M cells slots (a0 :: a1 :: some (.null) :: t) pc (st) := by
  subst hq
  intro p e s m args below meth c r0 r H locs ls hC hZ hW hR hlo hls
  exact lv_aload_nN hC.1 hC.2.1 d rfl (hls.at (i := 2) rfl) (k p e s m args below meth c r0 r H locs ls hC hZ hW hR hlo hls)
theorem V_is2 (q : Nat) {a0 a1 b : Option Value} {t : List (Option Value)} {x : Int32} (d : decode cc pc = .ok (.istore_n 2, 1)) (hn : 2 < nL) (hq : pc + 1 = q) (k : V l G y cc nL ret R mc ms Z post L M cells slots (a0 :: a1 :: some (.int x) :: t) q st) : V l G y cc nL ret R mc ms Z post L M cells slots (a0 :: a1 :: b :: t) pc (.int x :: st) := by
  subst hq
  intro p e s m args below meth c r0 r H locs ls hC hZ hW hR hlo hls
  exact lv_istore_n hC.1 hC.2.1 d rfl hls.1 hn rfl (fun ls' h' => k p e s m args below meth c r0 r H locs ls' hC hZ hW hR hlo (gH.set (i := 2) (v := .int x) hls.2 rfl h'))
theorem V_as2 (q : Nat) {a0 a1 b : Option Value} {t : List (Option Value)} {x : Nat} (d : decode cc pc = .ok (.astore_n 2, 1)) (hn : 2 < nL) (hq : pc + 1 = q) (k : V l G y cc nL ret R mc ms Z post L M cells slots (a0 :: a1 :: some (.ref x) :: t) q st) : V l G y cc nL ret R mc ms Z post L M cells slots (a0 :: a1 :: b :: t) pc (.ref x :: st) := by
  subst hq
  intro p e s m args below meth c r0 r H locs ls hC hZ hW hR hlo hls
  exact lv_astore_n hC.1 hC.2.1 d rfl hls.1 hn rfl (fun ls' h' => k p e s m args below meth c r0 r H locs ls' hC hZ hW hR hlo (gH.set (i := 2) (v := .ref x) hls.2 rfl h'))
theorem V_az2 (q : Nat) {a0 a1 b : Option Value} {t : List (Option Value)}  (d : decode cc pc = .ok (.astore_n 2, 1)) (hn : 2 < nL) (hq : pc + 1 = q) (k : V l G y cc nL ret R mc ms Z post L M cells slots (a0 :: a1 :: some (.null) :: t) q st) : V l G y cc nL ret R mc ms Z post L M cells slots (a0 :: a1 :: b :: t) pc (.null :: st) := by
  subst hq
  intro p e s m args below meth c r0 r H locs ls hC hZ hW hR hlo hls
  exact lv_astore_nN hC.1 hC.2.1 d rfl hls.1 hn rfl (fun ls' h' => k p e s m args below meth c r0 r H locs ls' hC hZ hW hR hlo (gH.set (i := 2) (v := .null) hls.2 rfl h'))
theorem V_ii2 (q : Nat) {a0 a1 : Option Value} {t : List (Option Value)} {x v : Int32} {n : Int} (d : decode cc pc = .ok (.iinc 2 n, 3)) (hn : 2 < nL) (hv : Int32.ofInt n = v) (hq : pc + 3 = q) (k : V l G y cc nL ret R mc ms Z post L M cells slots (a0 :: a1 :: some (.int (x + v)) :: t) q st) : V l G y cc nL ret R mc ms Z post L M cells slots (a0 :: a1 :: some (.int x) :: t) pc st := by
  subst hq
  subst hv
  intro p e s m args below meth c r0 r H locs ls hC hZ hW hR hlo hls
  obtain ⟨k9, hk9⟩ := List.getElem?_of_mem (gP_mem.mpr ⟨.int x, rfl, rfl⟩ : (2, Value.int x) ∈ gP r (a0 :: a1 :: some (.int x) :: t))
  exact lv_iinc hC.1 hC.2.1 d hls.1 hk9 rfl hn rfl (fun ls' h' => k p e s m args below meth c r0 r H locs ls' hC hZ hW hR hlo (gH.set (i := 2) (v := .int (x + Int32.ofInt n)) hls.2 rfl h'))
theorem V_il3 (q : Nat) {a0 a1 a2 : Option Value} {t : List (Option Value)} {x : Int32} (d : decode cc pc = .ok (.iload_n 3, 1)) (hq : pc + 1 = q) (k : V l G y cc nL ret R mc ms Z post L M cells slots (a0 :: a1 :: a2 :: some (.int x) :: t) q (.int x :: st)) : V l G y cc nL ret R mc ms Z post L M cells slots (a0 :: a1 :: a2 :: some (.int x) :: t) pc (st) := by
  subst hq
  intro p e s m args below meth c r0 r H locs ls hC hZ hW hR hlo hls
  exact lv_iload_n hC.1 hC.2.1 d rfl (hls.at (i := 3) rfl) (k p e s m args below meth c r0 r H locs ls hC hZ hW hR hlo hls)
theorem V_al3 (q : Nat) {a0 a1 a2 : Option Value} {t : List (Option Value)} {x : Nat} (d : decode cc pc = .ok (.aload_n 3, 1)) (hq : pc + 1 = q) (k : V l G y cc nL ret R mc ms Z post L M cells slots (a0 :: a1 :: a2 :: some (.ref x) :: t) q (.ref x :: st)) : V l G y cc nL ret R mc ms Z post L M cells slots (a0 :: a1 :: a2 :: some (.ref x) :: t) pc (st) := by
  subst hq
  intro p e s m args below meth c r0 r H locs ls hC hZ hW hR hlo hls
  exact lv_aload_n hC.1 hC.2.1 d rfl (hls.at (i := 3) rfl) (k p e s m args below meth c r0 r H locs ls hC hZ hW hR hlo hls)
theorem V_an3 (q : Nat) {a0 a1 a2 : Option Value} {t : List (Option Value)}  (d : decode cc pc = .ok (.aload_n 3, 1)) (hq : pc + 1 = q) (k : V l G y cc nL ret R mc ms Z post L M cells slots (a0 :: a1 :: a2 :: some (.null) :: t) q (.null :: st)) : V l G y cc nL ret R mc ms Z post L M cells slots (a0 :: a1 :: a2 :: some (.null) :: t) pc (st) := by
  subst hq
  intro p e s m args below meth c r0 r H locs ls hC hZ hW hR hlo hls
  exact lv_aload_nN hC.1 hC.2.1 d rfl (hls.at (i := 3) rfl) (k p e s m args below meth c r0 r H locs ls hC hZ hW hR hlo hls)
theorem V_is3 (q : Nat) {a0 a1 a2 b : Option Value} {t : List (Option Value)} {x : Int32} (d : decode cc pc = .ok (.istore_n 3, 1)) (hn : 3 < nL) (hq : pc + 1 = q) (k : V l G y cc nL ret R mc ms Z post L M cells slots (a0 :: a1 :: a2 :: some (.int x) :: t) q st) : V l G y cc nL ret R mc ms Z post L M cells slots (a0 :: a1 :: a2 :: b :: t) pc (.int x :: st) := by
  subst hq
  intro p e s m args below meth c r0 r H locs ls hC hZ hW hR hlo hls
  exact lv_istore_n hC.1 hC.2.1 d rfl hls.1 hn rfl (fun ls' h' => k p e s m args below meth c r0 r H locs ls' hC hZ hW hR hlo (gH.set (i := 3) (v := .int x) hls.2 rfl h'))
theorem V_as3 (q : Nat) {a0 a1 a2 b : Option Value} {t : List (Option Value)} {x : Nat} (d : decode cc pc = .ok (.astore_n 3, 1)) (hn : 3 < nL) (hq : pc + 1 = q) (k : V l G y cc nL ret R mc ms Z post L M cells slots (a0 :: a1 :: a2 :: some (.ref x) :: t) q st) : V l G y cc nL ret R mc ms Z post L M cells slots (a0 :: a1 :: a2 :: b :: t) pc (.ref x :: st) := by
  subst hq
  intro p e s m args below meth c r0 r H locs ls hC hZ hW hR hlo hls
  exact lv_astore_n hC.1 hC.2.1 d rfl hls.1 hn rfl (fun ls' h' => k p e s m args below meth c r0 r H locs ls' hC hZ hW hR hlo (gH.set (i := 3) (v := .ref x) hls.2 rfl h'))
theorem V_az3 (q : Nat) {a0 a1 a2 b : Option Value} {t : List (Option Value)}  (d : decode cc pc = .ok (.astore_n 3, 1)) (hn : 3 < nL) (hq : pc + 1 = q) (k : V l G y cc nL ret R mc ms Z post L M cells slots (a0 :: a1 :: a2 :: some (.null) :: t) q st) : V l G y cc nL ret R mc ms Z post L M cells slots (a0 :: a1 :: a2 :: b :: t) pc (.null :: st) := by
  subst hq
  intro p e s m args below meth c r0 r H locs ls hC hZ hW hR hlo hls
  exact lv_astore_nN hC.1 hC.2.1 d rfl hls.1 hn rfl (fun ls' h' => k p e s m args below meth c r0 r H locs ls' hC hZ hW hR hlo (gH.set (i := 3) (v := .null) hls.2 rfl h'))
theorem V_ii3 (q : Nat) {a0 a1 a2 : Option Value} {t : List (Option Value)} {x v : Int32} {n : Int} (d : decode cc pc = .ok (.iinc 3 n, 3)) (hn : 3 < nL) (hv : Int32.ofInt n = v) (hq : pc + 3 = q) (k : V l G y cc nL ret R mc ms Z post L M cells slots (a0 :: a1 :: a2 :: some (.int (x + v)) :: t) q st) : V l G y cc nL ret R mc ms Z post L M cells slots (a0 :: a1 :: a2 :: some (.int x) :: t) pc st := by
  subst hq
  subst hv
  intro p e s m args below meth c r0 r H locs ls hC hZ hW hR hlo hls
  obtain ⟨k9, hk9⟩ := List.getElem?_of_mem (gP_mem.mpr ⟨.int x, rfl, rfl⟩ : (3, Value.int x) ∈ gP r (a0 :: a1 :: a2 :: some (.int x) :: t))
  exact lv_iinc hC.1 hC.2.1 d hls.1 hk9 rfl hn rfl (fun ls' h' => k p e s m args below meth c r0 r H locs ls' hC hZ hW hR hlo (gH.set (i := 3) (v := .int (x + Int32.ofInt n)) hls.2 rfl h'))
theorem V_il4 (q : Nat) {a0 a1 a2 a3 : Option Value} {t : List (Option Value)} {x : Int32} (d : decode cc pc = .ok (.iload 4, 2)) (hq : pc + 2 = q) (k : V l G y cc nL ret R mc ms Z post L M cells slots (a0 :: a1 :: a2 :: a3 :: some (.int x) :: t) q (.int x :: st)) : V l G y cc nL ret R mc ms Z post L M cells slots (a0 :: a1 :: a2 :: a3 :: some (.int x) :: t) pc (st) := by
  subst hq
  intro p e s m args below meth c r0 r H locs ls hC hZ hW hR hlo hls
  exact lv_iload hC.1 hC.2.1 d (hls.at (i := 4) rfl) (k p e s m args below meth c r0 r H locs ls hC hZ hW hR hlo hls)
theorem V_al4 (q : Nat) {a0 a1 a2 a3 : Option Value} {t : List (Option Value)} {x : Nat} (d : decode cc pc = .ok (.aload 4, 2)) (hq : pc + 2 = q) (k : V l G y cc nL ret R mc ms Z post L M cells slots (a0 :: a1 :: a2 :: a3 :: some (.ref x) :: t) q (.ref x :: st)) : V l G y cc nL ret R mc ms Z post L M cells slots (a0 :: a1 :: a2 :: a3 :: some (.ref x) :: t) pc (st) := by
  subst hq
  intro p e s m args below meth c r0 r H locs ls hC hZ hW hR hlo hls
  exact lv_aload hC.1 hC.2.1 d (hls.at (i := 4) rfl) (k p e s m args below meth c r0 r H locs ls hC hZ hW hR hlo hls)
theorem V_an4 (q : Nat) {a0 a1 a2 a3 : Option Value} {t : List (Option Value)}  (d : decode cc pc = .ok (.aload 4, 2)) (hq : pc + 2 = q) (k : V l G y cc nL ret R mc ms Z post L M cells slots (a0 :: a1 :: a2 :: a3 :: some (.null) :: t) q (.null :: st)) : V l G y cc nL ret R mc ms Z post L M cells slots (a0 :: a1 :: a2 :: a3 :: some (.null) :: t) pc (st) := by
  subst hq
  intro p e s m args below meth c r0 r H locs ls hC hZ hW hR hlo hls
  exact lv_aloadN hC.1 hC.2.1 d (hls.at (i := 4) rfl) (k p e s m args below meth c r0 r H locs ls hC hZ hW hR hlo hls)
theorem V_is4 (q : Nat) {a0 a1 a2 a3 b : Option Value} {t : List (Option Value)} {x : Int32} (d : decode cc pc = .ok (.istore 4, 2)) (hn : 4 < nL) (hq : pc + 2 = q) (k : V l G y cc nL ret R mc ms Z post L M cells slots (a0 :: a1 :: a2 :: a3 :: some (.int x) :: t) q st) : V l G y cc nL ret R mc ms Z post L M cells slots (a0 :: a1 :: a2 :: a3 :: b :: t) pc (.int x :: st) := by
  subst hq
  intro p e s m args below meth c r0 r H locs ls hC hZ hW hR hlo hls
  exact lv_istore hC.1 hC.2.1 d hls.1 hn rfl (fun ls' h' => k p e s m args below meth c r0 r H locs ls' hC hZ hW hR hlo (gH.set (i := 4) (v := .int x) hls.2 rfl h'))
theorem V_as4 (q : Nat) {a0 a1 a2 a3 b : Option Value} {t : List (Option Value)} {x : Nat} (d : decode cc pc = .ok (.astore 4, 2)) (hn : 4 < nL) (hq : pc + 2 = q) (k : V l G y cc nL ret R mc ms Z post L M cells slots (a0 :: a1 :: a2 :: a3 :: some (.ref x) :: t) q st) : V l G y cc nL ret R mc ms Z post L M cells slots (a0 :: a1 :: a2 :: a3 :: b :: t) pc (.ref x :: st) := by
  subst hq
  intro p e s m args below meth c r0 r H locs ls hC hZ hW hR hlo hls
  exact lv_astore hC.1 hC.2.1 d hls.1 hn rfl (fun ls' h' => k p e s m args below meth c r0 r H locs ls' hC hZ hW hR hlo (gH.set (i := 4) (v := .ref x) hls.2 rfl h'))
theorem V_az4 (q : Nat) {a0 a1 a2 a3 b : Option Value} {t : List (Option Value)}  (d : decode cc pc = .ok (.astore 4, 2)) (hn : 4 < nL) (hq : pc + 2 = q) (k : V l G y cc nL ret R mc ms Z post L M cells slots (a0 :: a1 :: a2 :: a3 :: some (.null) :: t) q st) : V l G y cc nL ret R mc ms Z post L M cells slots (a0 :: a1 :: a2 :: a3 :: b :: t) pc (.null :: st) := by
  subst hq
  intro p e s m args below meth c r0 r H locs ls hC hZ hW hR hlo hls
  exact lv_astoreN hC.1 hC.2.1 d hls.1 hn rfl (fun ls' h' => k p e s m args below meth c r0 r H locs ls' hC hZ hW hR hlo (gH.set (i := 4) (v := .null) hls.2 rfl h'))
theorem V_ii4 (q : Nat) {a0 a1 a2 a3 : Option Value} {t : List (Option Value)} {x v : Int32} {n : Int} (d : decode cc pc = .ok (.iinc 4 n, 3)) (hn : 4 < nL) (hv : Int32.ofInt n = v) (hq : pc + 3 = q) (k : V l G y cc nL ret R mc ms Z post L M cells slots (a0 :: a1 :: a2 :: a3 :: some (.int (x + v)) :: t) q st) : V l G y cc nL ret R mc ms Z post L M cells slots (a0 :: a1 :: a2 :: a3 :: some (.int x) :: t) pc st := by
  subst hq
  subst hv
  intro p e s m args below meth c r0 r H locs ls hC hZ hW hR hlo hls
  obtain ⟨k9, hk9⟩ := List.getElem?_of_mem (gP_mem.mpr ⟨.int x, rfl, rfl⟩ : (4, Value.int x) ∈ gP r (a0 :: a1 :: a2 :: a3 :: some (.int x) :: t))
  exact lv_iinc hC.1 hC.2.1 d hls.1 hk9 rfl hn rfl (fun ls' h' => k p e s m args below meth c r0 r H locs ls' hC hZ hW hR hlo (gH.set (i := 4) (v := .int (x + Int32.ofInt n)) hls.2 rfl h'))
theorem V_il5 (q : Nat) {a0 a1 a2 a3 a4 : Option Value} {t : List (Option Value)} {x : Int32} (d : decode cc pc = .ok (.iload 5, 2)) (hq : pc + 2 = q) (k : V l G y cc nL ret R mc ms Z post L M cells slots (a0 :: a1 :: a2 :: a3 :: a4 :: some (.int x) :: t) q (.int x :: st)) : V l G y cc nL ret R mc ms Z post L M cells slots (a0 :: a1 :: a2 :: a3 :: a4 :: some (.int x) :: t) pc (st) := by
  subst hq
  intro p e s m args below meth c r0 r H locs ls hC hZ hW hR hlo hls
  exact lv_iload hC.1 hC.2.1 d (hls.at (i := 5) rfl) (k p e s m args below meth c r0 r H locs ls hC hZ hW hR hlo hls)
theorem V_al5 (q : Nat) {a0 a1 a2 a3 a4 : Option Value} {t : List (Option Value)} {x : Nat} (d : decode cc pc = .ok (.aload 5, 2)) (hq : pc + 2 = q) (k : V l G y cc nL ret R mc ms Z post L M cells slots (a0 :: a1 :: a2 :: a3 :: a4 :: some (.ref x) :: t) q (.ref x :: st)) : V l G y cc nL ret R mc ms Z post L M cells slots (a0 :: a1 :: a2 :: a3 :: a4 :: some (.ref x) :: t) pc (st) := by
  subst hq
  intro p e s m args below meth c r0 r H locs ls hC hZ hW hR hlo hls
  exact lv_aload hC.1 hC.2.1 d (hls.at (i := 5) rfl) (k p e s m args below meth c r0 r H locs ls hC hZ hW hR hlo hls)
theorem V_an5 (q : Nat) {a0 a1 a2 a3 a4 : Option Value} {t : List (Option Value)}  (d : decode cc pc = .ok (.aload 5, 2)) (hq : pc + 2 = q) (k : V l G y cc nL ret R mc ms Z post L M cells slots (a0 :: a1 :: a2 :: a3 :: a4 :: some (.null) :: t) q (.null :: st)) : V l G y cc nL ret R mc ms Z post L M cells slots (a0 :: a1 :: a2 :: a3 :: a4 :: some (.null) :: t) pc (st) := by
  subst hq
  intro p e s m args below meth c r0 r H locs ls hC hZ hW hR hlo hls
  exact lv_aloadN hC.1 hC.2.1 d (hls.at (i := 5) rfl) (k p e s m args below meth c r0 r H locs ls hC hZ hW hR hlo hls)
theorem V_is5 (q : Nat) {a0 a1 a2 a3 a4 b : Option Value} {t : List (Option Value)} {x : Int32} (d : decode cc pc = .ok (.istore 5, 2)) (hn : 5 < nL) (hq : pc + 2 = q) (k : V l G y cc nL ret R mc ms Z post L M cells slots (a0 :: a1 :: a2 :: a3 :: a4 :: some (.int x) :: t) q st) : V l G y cc nL ret R mc ms Z post L M cells slots (a0 :: a1 :: a2 :: a3 :: a4 :: b :: t) pc (.int x :: st) := by
  subst hq
  intro p e s m args below meth c r0 r H locs ls hC hZ hW hR hlo hls
  exact lv_istore hC.1 hC.2.1 d hls.1 hn rfl (fun ls' h' => k p e s m args below meth c r0 r H locs ls' hC hZ hW hR hlo (gH.set (i := 5) (v := .int x) hls.2 rfl h'))
theorem V_as5 (q : Nat) {a0 a1 a2 a3 a4 b : Option Value} {t : List (Option Value)} {x : Nat} (d : decode cc pc = .ok (.astore 5, 2)) (hn : 5 < nL) (hq : pc + 2 = q) (k : V l G y cc nL ret R mc ms Z post L M cells slots (a0 :: a1 :: a2 :: a3 :: a4 :: some (.ref x) :: t) q st) : V l G y cc nL ret R mc ms Z post L M cells slots (a0 :: a1 :: a2 :: a3 :: a4 :: b :: t) pc (.ref x :: st) := by
  subst hq
  intro p e s m args below meth c r0 r H locs ls hC hZ hW hR hlo hls
  exact lv_astore hC.1 hC.2.1 d hls.1 hn rfl (fun ls' h' => k p e s m args below meth c r0 r H locs ls' hC hZ hW hR hlo (gH.set (i := 5) (v := .ref x) hls.2 rfl h'))
theorem V_az5 (q : Nat) {a0 a1 a2 a3 a4 b : Option Value} {t : List (Option Value)}  (d : decode cc pc = .ok (.astore 5, 2)) (hn : 5 < nL) (hq : pc + 2 = q) (k : V l G y cc nL ret R mc ms Z post L M cells slots (a0 :: a1 :: a2 :: a3 :: a4 :: some (.null) :: t) q st) : V l G y cc nL ret R mc ms Z post L M cells slots (a0 :: a1 :: a2 :: a3 :: a4 :: b :: t) pc (.null :: st) := by
  subst hq
  intro p e s m args below meth c r0 r H locs ls hC hZ hW hR hlo hls
  exact lv_astoreN hC.1 hC.2.1 d hls.1 hn rfl (fun ls' h' => k p e s m args below meth c r0 r H locs ls' hC hZ hW hR hlo (gH.set (i := 5) (v := .null) hls.2 rfl h'))
theorem V_ii5 (q : Nat) {a0 a1 a2 a3 a4 : Option Value} {t : List (Option Value)} {x v : Int32} {n : Int} (d : decode cc pc = .ok (.iinc 5 n, 3)) (hn : 5 < nL) (hv : Int32.ofInt n = v) (hq : pc + 3 = q) (k : V l G y cc nL ret R mc ms Z post L M cells slots (a0 :: a1 :: a2 :: a3 :: a4 :: some (.int (x + v)) :: t) q st) : V l G y cc nL ret R mc ms Z post L M cells slots (a0 :: a1 :: a2 :: a3 :: a4 :: some (.int x) :: t) pc st := by
  subst hq
  subst hv
  intro p e s m args below meth c r0 r H locs ls hC hZ hW hR hlo hls
  obtain ⟨k9, hk9⟩ := List.getElem?_of_mem (gP_mem.mpr ⟨.int x, rfl, rfl⟩ : (5, Value.int x) ∈ gP r (a0 :: a1 :: a2 :: a3 :: a4 :: some (.int x) :: t))
  exact lv_iinc hC.1 hC.2.1 d hls.1 hk9 rfl hn rfl (fun ls' h' => k p e s m args below meth c r0 r H locs ls' hC hZ hW hR hlo (gH.set (i := 5) (v := .int (x + Int32.ofInt n)) hls.2 rfl h'))
theorem V_il6 (q : Nat) {a0 a1 a2 a3 a4 a5 : Option Value} {t : List (Option Value)} {x : Int32} (d : decode cc pc = .ok (.iload 6, 2)) (hq : pc + 2 = q) (k : V l G y cc nL ret R mc ms Z post L M cells slots (a0 :: a1 :: a2 :: a3 :: a4 :: a5 :: some (.int x) :: t) q (.int x :: st)) : V l G y cc nL ret R mc ms Z post L M cells slots (a0 :: a1 :: a2 :: a3 :: a4 :: a5 :: some (.int x) :: t) pc (st) := by
  subst hq
  intro p e s m args below meth c r0 r H locs ls hC hZ hW hR hlo hls
  exact lv_iload hC.1 hC.2.1 d (hls.at (i := 6) rfl) (k p e s m args below meth c r0 r H locs ls hC hZ hW hR hlo hls)
theorem V_al6 (q : Nat) {a0 a1 a2 a3 a4 a5 : Option Value} {t : List (Option Value)} {x : Nat} (d : decode cc pc = .ok (.aload 6, 2)) (hq : pc + 2 = q) (k : V l G y cc nL ret R mc ms Z post L M cells slots (a0 :: a1 :: a2 :: a3 :: a4 :: a5 :: some (.ref x) :: t) q (.ref x :: st)) : V l G y cc nL ret R mc ms Z post L M cells slots (a0 :: a1 :: a2 :: a3 :: a4 :: a5 :: some (.ref x) :: t) pc (st) := by
  subst hq
  intro p e s m args below meth c r0 r H locs ls hC hZ hW hR hlo hls
  exact lv_aload hC.1 hC.2.1 d (hls.at (i := 6) rfl) (k p e s m args below meth c r0 r H locs ls hC hZ hW hR hlo hls)
theorem V_an6 (q : Nat) {a0 a1 a2 a3 a4 a5 : Option Value} {t : List (Option Value)}  (d : decode cc pc = .ok (.aload 6, 2)) (hq : pc + 2 = q) (k : V l G y cc nL ret R mc ms Z post L M cells slots (a0 :: a1 :: a2 :: a3 :: a4 :: a5 :: some (.null) :: t) q (.null :: st)) : V l G y cc nL ret R mc ms Z post L M cells slots (a0 :: a1 :: a2 :: a3 :: a4 :: a5 :: some (.null) :: t) pc (st) := by
  subst hq
  intro p e s m args below meth c r0 r H locs ls hC hZ hW hR hlo hls
  exact lv_aloadN hC.1 hC.2.1 d (hls.at (i := 6) rfl) (k p e s m args below meth c r0 r H locs ls hC hZ hW hR hlo hls)
theorem V_is6 (q : Nat) {a0 a1 a2 a3 a4 a5 b : Option Value} {t : List (Option Value)} {x : Int32} (d : decode cc pc = .ok (.istore 6, 2)) (hn : 6 < nL) (hq : pc + 2 = q) (k : V l G y cc nL ret R mc ms Z post L M cells slots (a0 :: a1 :: a2 :: a3 :: a4 :: a5 :: some (.int x) :: t) q st) : V l G y cc nL ret R mc ms Z post L M cells slots (a0 :: a1 :: a2 :: a3 :: a4 :: a5 :: b :: t) pc (.int x :: st) := by
  subst hq
  intro p e s m args below meth c r0 r H locs ls hC hZ hW hR hlo hls
  exact lv_istore hC.1 hC.2.1 d hls.1 hn rfl (fun ls' h' => k p e s m args below meth c r0 r H locs ls' hC hZ hW hR hlo (gH.set (i := 6) (v := .int x) hls.2 rfl h'))
theorem V_as6 (q : Nat) {a0 a1 a2 a3 a4 a5 b : Option Value} {t : List (Option Value)} {x : Nat} (d : decode cc pc = .ok (.astore 6, 2)) (hn : 6 < nL) (hq : pc + 2 = q) (k : V l G y cc nL ret R mc ms Z post L M cells slots (a0 :: a1 :: a2 :: a3 :: a4 :: a5 :: some (.ref x) :: t) q st) : V l G y cc nL ret R mc ms Z post L M cells slots (a0 :: a1 :: a2 :: a3 :: a4 :: a5 :: b :: t) pc (.ref x :: st) := by
  subst hq
  intro p e s m args below meth c r0 r H locs ls hC hZ hW hR hlo hls
  exact lv_astore hC.1 hC.2.1 d hls.1 hn rfl (fun ls' h' => k p e s m args below meth c r0 r H locs ls' hC hZ hW hR hlo (gH.set (i := 6) (v := .ref x) hls.2 rfl h'))
theorem V_az6 (q : Nat) {a0 a1 a2 a3 a4 a5 b : Option Value} {t : List (Option Value)}  (d : decode cc pc = .ok (.astore 6, 2)) (hn : 6 < nL) (hq : pc + 2 = q) (k : V l G y cc nL ret R mc ms Z post L M cells slots (a0 :: a1 :: a2 :: a3 :: a4 :: a5 :: some (.null) :: t) q st) : V l G y cc nL ret R mc ms Z post L M cells slots (a0 :: a1 :: a2 :: a3 :: a4 :: a5 :: b :: t) pc (.null :: st) := by
  subst hq
  intro p e s m args below meth c r0 r H locs ls hC hZ hW hR hlo hls
  exact lv_astoreN hC.1 hC.2.1 d hls.1 hn rfl (fun ls' h' => k p e s m args below meth c r0 r H locs ls' hC hZ hW hR hlo (gH.set (i := 6) (v := .null) hls.2 rfl h'))
theorem V_ii6 (q : Nat) {a0 a1 a2 a3 a4 a5 : Option Value} {t : List (Option Value)} {x v : Int32} {n : Int} (d : decode cc pc = .ok (.iinc 6 n, 3)) (hn : 6 < nL) (hv : Int32.ofInt n = v) (hq : pc + 3 = q) (k : V l G y cc nL ret R mc ms Z post L M cells slots (a0 :: a1 :: a2 :: a3 :: a4 :: a5 :: some (.int (x + v)) :: t) q st) : V l G y cc nL ret R mc ms Z post L M cells slots (a0 :: a1 :: a2 :: a3 :: a4 :: a5 :: some (.int x) :: t) pc st := by
  subst hq
  subst hv
  intro p e s m args below meth c r0 r H locs ls hC hZ hW hR hlo hls
  obtain ⟨k9, hk9⟩ := List.getElem?_of_mem (gP_mem.mpr ⟨.int x, rfl, rfl⟩ : (6, Value.int x) ∈ gP r (a0 :: a1 :: a2 :: a3 :: a4 :: a5 :: some (.int x) :: t))
  exact lv_iinc hC.1 hC.2.1 d hls.1 hk9 rfl hn rfl (fun ls' h' => k p e s m args below meth c r0 r H locs ls' hC hZ hW hR hlo (gH.set (i := 6) (v := .int (x + Int32.ofInt n)) hls.2 rfl h'))
theorem V_il7 (q : Nat) {a0 a1 a2 a3 a4 a5 a6 : Option Value} {t : List (Option Value)} {x : Int32} (d : decode cc pc = .ok (.iload 7, 2)) (hq : pc + 2 = q) (k : V l G y cc nL ret R mc ms Z post L M cells slots (a0 :: a1 :: a2 :: a3 :: a4 :: a5 :: a6 :: some (.int x) :: t) q (.int x :: st)) : V l G y cc nL ret R mc ms Z post L M cells slots (a0 :: a1 :: a2 :: a3 :: a4 :: a5 :: a6 :: some (.int x) :: t) pc (st) := by
  subst hq
  intro p e s m args below meth c r0 r H locs ls hC hZ hW hR hlo hls
  exact lv_iload hC.1 hC.2.1 d (hls.at (i := 7) rfl) (k p e s m args below meth c r0 r H locs ls hC hZ hW hR hlo hls)
theorem V_al7 (q : Nat) {a0 a1 a2 a3 a4 a5 a6 : Option Value} {t : List (Option Value)} {x : Nat} (d : decode cc pc = .ok (.aload 7, 2)) (hq : pc + 2 = q) (k : V l G y cc nL ret R mc ms Z post L M cells slots (a0 :: a1 :: a2 :: a3 :: a4 :: a5 :: a6 :: some (.ref x) :: t) q (.ref x :: st)) : V l G y cc nL ret R mc ms Z post L M cells slots (a0 :: a1 :: a2 :: a3 :: a4 :: a5 :: a6 :: some (.ref x) :: t) pc (st) := by
  subst hq
  intro p e s m args below meth c r0 r H locs ls hC hZ hW hR hlo hls
  exact lv_aload hC.1 hC.2.1 d (hls.at (i := 7) rfl) (k p e s m args below meth c r0 r H locs ls hC hZ hW hR hlo hls)
theorem V_an7 (q : Nat) {a0 a1 a2 a3 a4 a5 a6 : Option Value} {t : List (Option Value)}  (d : decode cc pc = .ok (.aload 7, 2)) (hq : pc + 2 = q) (k : V l G y cc nL ret R mc ms Z post L M cells slots (a0 :: a1 :: a2 :: a3 :: a4 :: a5 :: a6 :: some (.null) :: t) q (.null :: st)) : V l G y cc nL ret R mc ms Z post L M cells slots (a0 :: a1 :: a2 :: a3 :: a4 :: a5 :: a6 :: some (.null) :: t) pc (st) := by
  subst hq
  intro p e s m args below meth c r0 r H locs ls hC hZ hW hR hlo hls
  exact lv_aloadN hC.1 hC.2.1 d (hls.at (i := 7) rfl) (k p e s m args below meth c r0 r H locs ls hC hZ hW hR hlo hls)
theorem V_is7 (q : Nat) {a0 a1 a2 a3 a4 a5 a6 b : Option Value} {t : List (Option Value)} {x : Int32} (d : decode cc pc = .ok (.istore 7, 2)) (hn : 7 < nL) (hq : pc + 2 = q) (k : V l G y cc nL ret R mc ms Z post L M cells slots (a0 :: a1 :: a2 :: a3 :: a4 :: a5 :: a6 :: some (.int x) :: t) q st) : V l G y cc nL ret R mc ms Z post L M cells slots (a0 :: a1 :: a2 :: a3 :: a4 :: a5 :: a6 :: b :: t) pc (.int x :: st) := by
  subst hq
  intro p e s m args below meth c r0 r H locs ls hC hZ hW hR hlo hls
  exact lv_istore hC.1 hC.2.1 d hls.1 hn rfl (fun ls' h' => k p e s m args below meth c r0 r H locs ls' hC hZ hW hR hlo (gH.set (i := 7) (v := .int x) hls.2 rfl h'))
theorem V_as7 (q : Nat) {a0 a1 a2 a3 a4 a5 a6 b : Option Value} {t : List (Option Value)} {x : Nat} (d : decode cc pc = .ok (.astore 7, 2)) (hn : 7 < nL) (hq : pc + 2 = q) (k : V l G y cc nL ret R mc ms Z post L M cells slots (a0 :: a1 :: a2 :: a3 :: a4 :: a5 :: a6 :: some (.ref x) :: t) q st) : V l G y cc nL ret R mc ms Z post L M cells slots (a0 :: a1 :: a2 :: a3 :: a4 :: a5 :: a6 :: b :: t) pc (.ref x :: st) := by
  subst hq
  intro p e s m args below meth c r0 r H locs ls hC hZ hW hR hlo hls
  exact lv_astore hC.1 hC.2.1 d hls.1 hn rfl (fun ls' h' => k p e s m args below meth c r0 r H locs ls' hC hZ hW hR hlo (gH.set (i := 7) (v := .ref x) hls.2 rfl h'))
theorem V_az7 (q : Nat) {a0 a1 a2 a3 a4 a5 a6 b : Option Value} {t : List (Option Value)}  (d : decode cc pc = .ok (.astore 7, 2)) (hn : 7 < nL) (hq : pc + 2 = q) (k : V l G y cc nL ret R mc ms Z post L M cells slots (a0 :: a1 :: a2 :: a3 :: a4 :: a5 :: a6 :: some (.null) :: t) q st) : V l G y cc nL ret R mc ms Z post L M cells slots (a0 :: a1 :: a2 :: a3 :: a4 :: a5 :: a6 :: b :: t) pc (.null :: st) := by
  subst hq
  intro p e s m args below meth c r0 r H locs ls hC hZ hW hR hlo hls
  exact lv_astoreN hC.1 hC.2.1 d hls.1 hn rfl (fun ls' h' => k p e s m args below meth c r0 r H locs ls' hC hZ hW hR hlo (gH.set (i := 7) (v := .null) hls.2 rfl h'))
theorem V_ii7 (q : Nat) {a0 a1 a2 a3 a4 a5 a6 : Option Value} {t : List (Option Value)} {x v : Int32} {n : Int} (d : decode cc pc = .ok (.iinc 7 n, 3)) (hn : 7 < nL) (hv : Int32.ofInt n = v) (hq : pc + 3 = q) (k : V l G y cc nL ret R mc ms Z post L M cells slots (a0 :: a1 :: a2 :: a3 :: a4 :: a5 :: a6 :: some (.int (x + v)) :: t) q st) : V l G y cc nL ret R mc ms Z post L M cells slots (a0 :: a1 :: a2 :: a3 :: a4 :: a5 :: a6 :: some (.int x) :: t) pc st := by
  subst hq
  subst hv
  intro p e s m args below meth c r0 r H locs ls hC hZ hW hR hlo hls
  obtain ⟨k9, hk9⟩ := List.getElem?_of_mem (gP_mem.mpr ⟨.int x, rfl, rfl⟩ : (7, Value.int x) ∈ gP r (a0 :: a1 :: a2 :: a3 :: a4 :: a5 :: a6 :: some (.int x) :: t))
  exact lv_iinc hC.1 hC.2.1 d hls.1 hk9 rfl hn rfl (fun ls' h' => k p e s m args below meth c r0 r H locs ls' hC hZ hW hR hlo (gH.set (i := 7) (v := .int (x + Int32.ofInt n)) hls.2 rfl h'))
theorem V_il8 (q : Nat) {a0 a1 a2 a3 a4 a5 a6 a7 : Option Value} {t : List (Option Value)} {x : Int32} (d : decode cc pc = .ok (.iload 8, 2)) (hq : pc + 2 = q) (k : V l G y cc nL ret R mc ms Z post L M cells slots (a0 :: a1 :: a2 :: a3 :: a4 :: a5 :: a6 :: a7 :: some (.int x) :: t) q (.int x :: st)) : V l G y cc nL ret R mc ms Z post L M cells slots (a0 :: a1 :: a2 :: a3 :: a4 :: a5 :: a6 :: a7 :: some (.int x) :: t) pc (st) := by
  subst hq
  intro p e s m args below meth c r0 r H locs ls hC hZ hW hR hlo hls
  exact lv_iload hC.1 hC.2.1 d (hls.at (i := 8) rfl) (k p e s m args below meth c r0 r H locs ls hC hZ hW hR hlo hls)
theorem V_al8 (q : Nat) {a0 a1 a2 a3 a4 a5 a6 a7 : Option Value} {t : List (Option Value)} {x : Nat} (d : decode cc pc = .ok (.aload 8, 2)) (hq : pc + 2 = q) (k : V l G y cc nL ret R mc ms Z post L M cells slots (a0 :: a1 :: a2 :: a3 :: a4 :: a5 :: a6 :: a7 :: some (.ref x) :: t) q (.ref x :: st)) : V l G y cc nL ret R mc ms Z post L M cells slots (a0 :: a1 :: a2 :: a3 :: a4 :: a5 :: a6 :: a7 :: some (.ref x) :: t) pc (st) := by
  subst hq
  intro p e s m args below meth c r0 r H locs ls hC hZ hW hR hlo hls
  exact lv_aload hC.1 hC.2.1 d (hls.at (i := 8) rfl) (k p e s m args below meth c r0 r H locs ls hC hZ hW hR hlo hls)
theorem V_an8 (q : Nat) {a0 a1 a2 a3 a4 a5 a6 a7 : Option Value} {t : List (Option Value)}  (d : decode cc pc = .ok (.aload 8, 2)) (hq : pc + 2 = q) (k : V l G y cc nL ret R mc ms Z post L M cells slots (a0 :: a1 :: a2 :: a3 :: a4 :: a5 :: a6 :: a7 :: some (.null) :: t) q (.null :: st)) : V l G y cc nL ret R mc ms Z post L M cells slots (a0 :: a1 :: a2 :: a3 :: a4 :: a5 :: a6 :: a7 :: some (.null) :: t) pc (st) := by
  subst hq
  intro p e s m args below meth c r0 r H locs ls hC hZ hW hR hlo hls
  exact lv_aloadN hC.1 hC.2.1 d (hls.at (i := 8) rfl) (k p e s m args below meth c r0 r H locs ls hC hZ hW hR hlo hls)
theorem V_is8 (q : Nat) {a0 a1 a2 a3 a4 a5 a6 a7 b : Option Value} {t : List (Option Value)} {x : Int32} (d : decode cc pc = .ok (.istore 8, 2)) (hn : 8 < nL) (hq : pc + 2 = q) (k : V l G y cc nL ret R mc ms Z post L M cells slots (a0 :: a1 :: a2 :: a3 :: a4 :: a5 :: a6 :: a7 :: some (.int x) :: t) q st) : V l G y cc nL ret R mc ms Z post L M cells slots (a0 :: a1 :: a2 :: a3 :: a4 :: a5 :: a6 :: a7 :: b :: t) pc (.int x :: st) := by
  subst hq
  intro p e s m args below meth c r0 r H locs ls hC hZ hW hR hlo hls
  exact lv_istore hC.1 hC.2.1 d hls.1 hn rfl (fun ls' h' => k p e s m args below meth c r0 r H locs ls' hC hZ hW hR hlo (gH.set (i := 8) (v := .int x) hls.2 rfl h'))
theorem V_as8 (q : Nat) {a0 a1 a2 a3 a4 a5 a6 a7 b : Option Value} {t : List (Option Value)} {x : Nat} (d : decode cc pc = .ok (.astore 8, 2)) (hn : 8 < nL) (hq : pc + 2 = q) (k : V l G y cc nL ret R mc ms Z post L M cells slots (a0 :: a1 :: a2 :: a3 :: a4 :: a5 :: a6 :: a7 :: some (.ref x) :: t) q st) : V l G y cc nL ret R mc ms Z post L M cells slots (a0 :: a1 :: a2 :: a3 :: a4 :: a5 :: a6 :: a7 :: b :: t) pc (.ref x :: st) := by
  subst hq
  intro p e s m args below meth c r0 r H locs ls hC hZ hW hR hlo hls
  exact lv_astore hC.1 hC.2.1 d hls.1 hn rfl (fun ls' h' => k p e s m args below meth c r0 r H locs ls' hC hZ hW hR hlo (gH.set (i := 8) (v := .ref x) hls.2 rfl h'))
theorem V_az8 (q : Nat) {a0 a1 a2 a3 a4 a5 a6 a7 b : Option Value} {t : List (Option Value)}  (d : decode cc pc = .ok (.astore 8, 2)) (hn : 8 < nL) (hq : pc + 2 = q) (k : V l G y cc nL ret R mc ms Z post L M cells slots (a0 :: a1 :: a2 :: a3 :: a4 :: a5 :: a6 :: a7 :: some (.null) :: t) q st) : V l G y cc nL ret R mc ms Z post L M cells slots (a0 :: a1 :: a2 :: a3 :: a4 :: a5 :: a6 :: a7 :: b :: t) pc (.null :: st) := by
  subst hq
  intro p e s m args below meth c r0 r H locs ls hC hZ hW hR hlo hls
  exact lv_astoreN hC.1 hC.2.1 d hls.1 hn rfl (fun ls' h' => k p e s m args below meth c r0 r H locs ls' hC hZ hW hR hlo (gH.set (i := 8) (v := .null) hls.2 rfl h'))
theorem V_ii8 (q : Nat) {a0 a1 a2 a3 a4 a5 a6 a7 : Option Value} {t : List (Option Value)} {x v : Int32} {n : Int} (d : decode cc pc = .ok (.iinc 8 n, 3)) (hn : 8 < nL) (hv : Int32.ofInt n = v) (hq : pc + 3 = q) (k : V l G y cc nL ret R mc ms Z post L M cells slots (a0 :: a1 :: a2 :: a3 :: a4 :: a5 :: a6 :: a7 :: some (.int (x + v)) :: t) q st) : V l G y cc nL ret R mc ms Z post L M cells slots (a0 :: a1 :: a2 :: a3 :: a4 :: a5 :: a6 :: a7 :: some (.int x) :: t) pc st := by
  subst hq
  subst hv
  intro p e s m args below meth c r0 r H locs ls hC hZ hW hR hlo hls
  obtain ⟨k9, hk9⟩ := List.getElem?_of_mem (gP_mem.mpr ⟨.int x, rfl, rfl⟩ : (8, Value.int x) ∈ gP r (a0 :: a1 :: a2 :: a3 :: a4 :: a5 :: a6 :: a7 :: some (.int x) :: t))
  exact lv_iinc hC.1 hC.2.1 d hls.1 hk9 rfl hn rfl (fun ls' h' => k p e s m args below meth c r0 r H locs ls' hC hZ hW hR hlo (gH.set (i := 8) (v := .int (x + Int32.ofInt n)) hls.2 rfl h'))
theorem V_il9 (q : Nat) {a0 a1 a2 a3 a4 a5 a6 a7 a8 : Option Value} {t : List (Option Value)} {x : Int32} (d : decode cc pc = .ok (.iload 9, 2)) (hq : pc + 2 = q) (k : V l G y cc nL ret R mc ms Z post L M cells slots (a0 :: a1 :: a2 :: a3 :: a4 :: a5 :: a6 :: a7 :: a8 :: some (.int x) :: t) q (.int x :: st)) : V l G y cc nL ret R mc ms Z post L M cells slots (a0 :: a1 :: a2 :: a3 :: a4 :: a5 :: a6 :: a7 :: a8 :: some (.int x) :: t) pc (st) := by
  subst hq
  intro p e s m args below meth c r0 r H locs ls hC hZ hW hR hlo hls
  exact lv_iload hC.1 hC.2.1 d (hls.at (i := 9) rfl) (k p e s m args below meth c r0 r H locs ls hC hZ hW hR hlo hls)
theorem V_al9 (q : Nat) {a0 a1 a2 a3 a4 a5 a6 a7 a8 : Option Value} {t : List (Option Value)} {x : Nat} (d : decode cc pc = .ok (.aload 9, 2)) (hq : pc + 2 = q) (k : V l G y cc nL ret R mc ms Z post L M cells slots (a0 :: a1 :: a2 :: a3 :: a4 :: a5 :: a6 :: a7 :: a8 :: some (.ref x) :: t) q (.ref x :: st)) : V l G y cc nL ret R mc ms Z post L M cells slots (a0 :: a1 :: a2 :: a3 :: a4 :: a5 :: a6 :: a7 :: a8 :: some (.ref x) :: t) pc (st) := by
  subst hq
  intro p e s m args below meth c r0 r H locs ls hC hZ hW hR hlo hls
  exact lv_aload hC.1 hC.2.1 d (hls.at (i := 9) rfl) (k p e s m args below meth c r0 r H locs ls hC hZ hW hR hlo hls)
theorem V_an9 (q : Nat) {a0 a1 a2 a3 a4 a5 a6 a7 a8 : Option Value} {t : List (Option Value)}  (d : decode cc pc = .ok (.aload 9, 2)) (hq : pc + 2 = q) (k : V l G y cc nL ret R mc ms Z post L M cells slots (a0 :: a1 :: a2 :: a3 :: a4 :: a5 :: a6 :: a7 :: a8 :: some (.null) :: t) q (.null :: st)) : V l G y cc nL ret R mc ms Z post L M cells slots (a0 :: a1 :: a2 :: a3 :: a4 :: a5 :: a6 :: a7 :: a8 :: some (.null) :: t) pc (st) := by
  subst hq
  intro p e s m args below meth c r0 r H locs ls hC hZ hW hR hlo hls
  exact lv_aloadN hC.1 hC.2.1 d (hls.at (i := 9) rfl) (k p e s m args below meth c r0 r H locs ls hC hZ hW hR hlo hls)
theorem V_is9 (q : Nat) {a0 a1 a2 a3 a4 a5 a6 a7 a8 b : Option Value} {t : List (Option Value)} {x : Int32} (d : decode cc pc = .ok (.istore 9, 2)) (hn : 9 < nL) (hq : pc + 2 = q) (k : V l G y cc nL ret R mc ms Z post L M cells slots (a0 :: a1 :: a2 :: a3 :: a4 :: a5 :: a6 :: a7 :: a8 :: some (.int x) :: t) q st) : V l G y cc nL ret R mc ms Z post L M cells slots (a0 :: a1 :: a2 :: a3 :: a4 :: a5 :: a6 :: a7 :: a8 :: b :: t) pc (.int x :: st) := by
  subst hq
  intro p e s m args below meth c r0 r H locs ls hC hZ hW hR hlo hls
  exact lv_istore hC.1 hC.2.1 d hls.1 hn rfl (fun ls' h' => k p e s m args below meth c r0 r H locs ls' hC hZ hW hR hlo (gH.set (i := 9) (v := .int x) hls.2 rfl h'))
theorem V_as9 (q : Nat) {a0 a1 a2 a3 a4 a5 a6 a7 a8 b : Option Value} {t : List (Option Value)} {x : Nat} (d : decode cc pc = .ok (.astore 9, 2)) (hn : 9 < nL) (hq : pc + 2 = q) (k : V l G y cc nL ret R mc ms Z post L M cells slots (a0 :: a1 :: a2 :: a3 :: a4 :: a5 :: a6 :: a7 :: a8 :: some (.ref x) :: t) q st) : V l G y cc nL ret R mc ms Z post L M cells slots (a0 :: a1 :: a2 :: a3 :: a4 :: a5 :: a6 :: a7 :: a8 :: b :: t) pc (.ref x :: st) := by
  subst hq
  intro p e s m args below meth c r0 r H locs ls hC hZ hW hR hlo hls
  exact lv_astore hC.1 hC.2.1 d hls.1 hn rfl (fun ls' h' => k p e s m args below meth c r0 r H locs ls' hC hZ hW hR hlo (gH.set (i := 9) (v := .ref x) hls.2 rfl h'))
theorem V_az9 (q : Nat) {a0 a1 a2 a3 a4 a5 a6 a7 a8 b : Option Value} {t : List (Option Value)}  (d : decode cc pc = .ok (.astore 9, 2)) (hn : 9 < nL) (hq : pc + 2 = q) (k : V l G y cc nL ret R mc ms Z post L M cells slots (a0 :: a1 :: a2 :: a3 :: a4 :: a5 :: a6 :: a7 :: a8 :: some (.null) :: t) q st) : V l G y cc nL ret R mc ms Z post L M cells slots (a0 :: a1 :: a2 :: a3 :: a4 :: a5 :: a6 :: a7 :: a8 :: b :: t) pc (.null :: st) := by
  subst hq
  intro p e s m args below meth c r0 r H locs ls hC hZ hW hR hlo hls
  exact lv_astoreN hC.1 hC.2.1 d hls.1 hn rfl (fun ls' h' => k p e s m args below meth c r0 r H locs ls' hC hZ hW hR hlo (gH.set (i := 9) (v := .null) hls.2 rfl h'))
theorem V_ii9 (q : Nat) {a0 a1 a2 a3 a4 a5 a6 a7 a8 : Option Value} {t : List (Option Value)} {x v : Int32} {n : Int} (d : decode cc pc = .ok (.iinc 9 n, 3)) (hn : 9 < nL) (hv : Int32.ofInt n = v) (hq : pc + 3 = q) (k : V l G y cc nL ret R mc ms Z post L M cells slots (a0 :: a1 :: a2 :: a3 :: a4 :: a5 :: a6 :: a7 :: a8 :: some (.int (x + v)) :: t) q st) : V l G y cc nL ret R mc ms Z post L M cells slots (a0 :: a1 :: a2 :: a3 :: a4 :: a5 :: a6 :: a7 :: a8 :: some (.int x) :: t) pc st := by
  subst hq
  subst hv
  intro p e s m args below meth c r0 r H locs ls hC hZ hW hR hlo hls
  obtain ⟨k9, hk9⟩ := List.getElem?_of_mem (gP_mem.mpr ⟨.int x, rfl, rfl⟩ : (9, Value.int x) ∈ gP r (a0 :: a1 :: a2 :: a3 :: a4 :: a5 :: a6 :: a7 :: a8 :: some (.int x) :: t))
  exact lv_iinc hC.1 hC.2.1 d hls.1 hk9 rfl hn rfl (fun ls' h' => k p e s m args below meth c r0 r H locs ls' hC hZ hW hR hlo (gH.set (i := 9) (v := .int (x + Int32.ofInt n)) hls.2 rfl h'))
theorem V_il10 (q : Nat) {a0 a1 a2 a3 a4 a5 a6 a7 a8 a9 : Option Value} {t : List (Option Value)} {x : Int32} (d : decode cc pc = .ok (.iload 10, 2)) (hq : pc + 2 = q) (k : V l G y cc nL ret R mc ms Z post L M cells slots (a0 :: a1 :: a2 :: a3 :: a4 :: a5 :: a6 :: a7 :: a8 :: a9 :: some (.int x) :: t) q (.int x :: st)) : V l G y cc nL ret R mc ms Z post L M cells slots (a0 :: a1 :: a2 :: a3 :: a4 :: a5 :: a6 :: a7 :: a8 :: a9 :: some (.int x) :: t) pc (st) := by
  subst hq
  intro p e s m args below meth c r0 r H locs ls hC hZ hW hR hlo hls
  exact lv_iload hC.1 hC.2.1 d (hls.at (i := 10) rfl) (k p e s m args below meth c r0 r H locs ls hC hZ hW hR hlo hls)
theorem V_al10 (q : Nat) {a0 a1 a2 a3 a4 a5 a6 a7 a8 a9 : Option Value} {t : List (Option Value)} {x : Nat} (d : decode cc pc = .ok (.aload 10, 2)) (hq : pc + 2 = q) (k : V l G y cc nL ret R mc ms Z post L M cells slots (a0 :: a1 :: a2 :: a3 :: a4 :: a5 :: a6 :: a7 :: a8 :: a9 :: some (.ref x) :: t) q (.ref x :: st)) : V l G y cc nL ret R mc ms Z post L M cells slots (a0 :: a1 :: a2 :: a3 :: a4 :: a5 :: a6 :: a7 :: a8 :: a9 :: some (.ref x) :: t) pc (st) := by
  subst hq
  intro p e s m args below meth c r0 r H locs ls hC hZ hW hR hlo hls
  exact lv_aload hC.1 hC.2.1 d (hls.at (i := 10) rfl) (k p e s m args below meth c r0 r H locs ls hC hZ hW hR hlo hls)
theorem V_an10 (q : Nat) {a0 a1 a2 a3 a4 a5 a6 a7 a8 a9 : Option Value} {t : List (Option Value)}  (d : decode cc pc = .ok (.aload 10, 2)) (hq : pc + 2 = q) (k : V l G y cc nL ret R mc ms Z post L M cells slots (a0 :: a1 :: a2 :: a3 :: a4 :: a5 :: a6 :: a7 :: a8 :: a9 :: some (.null) :: t) q (.null :: st)) : V l G y cc nL ret R mc ms Z post L M cells slots (a0 :: a1 :: a2 :: a3 :: a4 :: a5 :: a6 :: a7 :: a8 :: a9 :: some (.null) :: t) pc (st) := by
  subst hq
  intro p e s m args below meth c r0 r H locs ls hC hZ hW hR hlo hls
  exact lv_aloadN hC.1 hC.2.1 d (hls.at (i := 10) rfl) (k p e s m args below meth c r0 r H locs ls hC hZ hW hR hlo hls)
theorem V_is10 (q : Nat) {a0 a1 a2 a3 a4 a5 a6 a7 a8 a9 b : Option Value} {t : List (Option Value)} {x : Int32} (d : decode cc pc = .ok (.istore 10, 2)) (hn : 10 < nL) (hq : pc + 2 = q) (k : V l G y cc nL ret R mc ms Z post L M cells slots (a0 :: a1 :: a2 :: a3 :: a4 :: a5 :: a6 :: a7 :: a8 :: a9 :: some (.int x) :: t) q st) : V l G y cc nL ret R mc ms Z post L M cells slots (a0 :: a1 :: a2 :: a3 :: a4 :: a5 :: a6 :: a7 :: a8 :: a9 :: b :: t) pc (.int x :: st) := by
  subst hq
  intro p e s m args below meth c r0 r H locs ls hC hZ hW hR hlo hls
  exact lv_istore hC.1 hC.2.1 d hls.1 hn rfl (fun ls' h' => k p e s m args below meth c r0 r H locs ls' hC hZ hW hR hlo (gH.set (i := 10) (v := .int x) hls.2 rfl h'))
theorem V_as10 (q : Nat) {a0 a1 a2 a3 a4 a5 a6 a7 a8 a9 b : Option Value} {t : List (Option Value)} {x : Nat} (d : decode cc pc = .ok (.astore 10, 2)) (hn : 10 < nL) (hq : pc + 2 = q) (k : V l G y cc nL ret R mc ms Z post L M cells slots (a0 :: a1 :: a2 :: a3 :: a4 :: a5 :: a6 :: a7 :: a8 :: a9 :: some (.ref x) :: t) q st) : V l G y cc nL ret R mc ms Z post L M cells slots (a0 :: a1 :: a2 :: a3 :: a4 :: a5 :: a6 :: a7 :: a8 :: a9 :: b :: t) pc (.ref x :: st) := by
  subst hq
  intro p e s m args below meth c r0 r H locs ls hC hZ hW hR hlo hls
  exact lv_astore hC.1 hC.2.1 d hls.1 hn rfl (fun ls' h' => k p e s m args below meth c r0 r H locs ls' hC hZ hW hR hlo (gH.set (i := 10) (v := .ref x) hls.2 rfl h'))
theorem V_az10 (q : Nat) {a0 a1 a2 a3 a4 a5 a6 a7 a8 a9 b : Option Value} {t : List (Option Value)}  (d : decode cc pc = .ok (.astore 10, 2)) (hn : 10 < nL) (hq : pc + 2 = q) (k : V l G y cc nL ret R mc ms Z post L M cells slots (a0 :: a1 :: a2 :: a3 :: a4 :: a5 :: a6 :: a7 :: a8 :: a9 :: some (.null) :: t) q st) : V l G y cc nL ret R mc ms Z post L M cells slots (a0 :: a1 :: a2 :: a3 :: a4 :: a5 :: a6 :: a7 :: a8 :: a9 :: b :: t) pc (.null :: st) := by
  subst hq
  intro p e s m args below meth c r0 r H locs ls hC hZ hW hR hlo hls
  exact lv_astoreN hC.1 hC.2.1 d hls.1 hn rfl (fun ls' h' => k p e s m args below meth c r0 r H locs ls' hC hZ hW hR hlo (gH.set (i := 10) (v := .null) hls.2 rfl h'))
theorem V_ii10 (q : Nat) {a0 a1 a2 a3 a4 a5 a6 a7 a8 a9 : Option Value} {t : List (Option Value)} {x v : Int32} {n : Int} (d : decode cc pc = .ok (.iinc 10 n, 3)) (hn : 10 < nL) (hv : Int32.ofInt n = v) (hq : pc + 3 = q) (k : V l G y cc nL ret R mc ms Z post L M cells slots (a0 :: a1 :: a2 :: a3 :: a4 :: a5 :: a6 :: a7 :: a8 :: a9 :: some (.int (x + v)) :: t) q st) : V l G y cc nL ret R mc ms Z post L M cells slots (a0 :: a1 :: a2 :: a3 :: a4 :: a5 :: a6 :: a7 :: a8 :: a9 :: some (.int x) :: t) pc st := by
  subst hq
  subst hv
  intro p e s m args below meth c r0 r H locs ls hC hZ hW hR hlo hls
  obtain ⟨k9, hk9⟩ := List.getElem?_of_mem (gP_mem.mpr ⟨.int x, rfl, rfl⟩ : (10, Value.int x) ∈ gP r (a0 :: a1 :: a2 :: a3 :: a4 :: a5 :: a6 :: a7 :: a8 :: a9 :: some (.int x) :: t))
  exact lv_iinc hC.1 hC.2.1 d hls.1 hk9 rfl hn rfl (fun ls' h' => k p e s m args below meth c r0 r H locs ls' hC hZ hW hR hlo (gH.set (i := 10) (v := .int (x + Int32.ofInt n)) hls.2 rfl h'))
theorem V_il11 (q : Nat) {a0 a1 a2 a3 a4 a5 a6 a7 a8 a9 a10 : Option Value} {t : List (Option Value)} {x : Int32} (d : decode cc pc = .ok (.iload 11, 2)) (hq : pc + 2 = q) (k : V l G y cc nL ret R mc ms Z post L M cells slots (a0 :: a1 :: a2 :: a3 :: a4 :: a5 :: a6 :: a7 :: a8 :: a9 :: a10 :: some (.int x) :: t) q (.int x :: st)) : V l G y cc nL ret R mc ms Z post L M cells slots (a0 :: a1 :: a2 :: a3 :: a4 :: a5 :: a6 :: a7 :: a8 :: a9 :: a10 :: some (.int x) :: t) pc (st) := by
  subst hq
  intro p e s m args below meth c r0 r H locs ls hC hZ hW hR hlo hls
  exact lv_iload hC.1 hC.2.1 d (hls.at (i := 11) rfl) (k p e s m args below meth c r0 r H locs ls hC hZ hW hR hlo hls)
theorem V_al11 (q : Nat) {a0 a1 a2 a3 a4 a5 a6 a7 a8 a9 a10 : Option Value} {t : List (Option Value)} {x : Nat} (d : decode cc pc = .ok (.aload 11, 2)) (hq : pc + 2 = q) (k : V l G y cc nL ret R mc ms Z post L M cells slots (a0 :: a1 :: a2 :: a3 :: a4 :: a5 :: a6 :: a7 :: a8 :: a9 :: a10 :: some (.ref x) :: t) q (.ref x :: st)) : V l G y cc nL ret R mc ms Z post L M cells slots (a0 :: a1 :: a2 :: a3 :: a4 :: a5 :: a6 :: a7 :: a8 :: a9 :: a10 :: some (.ref x) :: t) pc (st) := by
  subst hq
  intro p e s m args below meth c r0 r H locs ls hC hZ hW hR hlo hls
  exact lv_aload hC.1 hC.2.1 d (hls.at (i := 11) rfl) (k p e s m args below meth c r0 r H locs ls hC hZ hW hR hlo hls)
theorem V_an11 (q : Nat) {a0 a1 a2 a3 a4 a5 a6 a7 a8 a9 a10 : Option Value} {t : List (Option Value)}  (d : decode cc pc = .ok (.aload 11, 2)) (hq : pc + 2 = q) (k : V l G y cc nL ret R mc ms Z post L M cells slots (a0 :: a1 :: a2 :: a3 :: a4 :: a5 :: a6 :: a7 :: a8 :: a9 :: a10 :: some (.null) :: t) q (.null :: st)) : V l G y cc nL ret R mc ms Z post L M cells slots (a0 :: a1 :: a2 :: a3 :: a4 :: a5 :: a6 :: a7 :: a8 :: a9 :: a10 :: some (.null) :: t) pc (st) := by
  subst hq
  intro p e s m args below meth c r0 r H locs ls hC hZ hW hR hlo hls
  exact lv_aloadN hC.1 hC.2.1 d (hls.at (i := 11) rfl) (k p e s m args below meth c r0 r H locs ls hC hZ hW hR hlo hls)
theorem V_is11 (q : Nat) {a0 a1 a2 a3 a4 a5 a6 a7 a8 a9 a10 b : Option Value} {t : List (Option Value)} {x : Int32} (d : decode cc pc = .ok (.istore 11, 2)) (hn : 11 < nL) (hq : pc + 2 = q) (k : V l G y cc nL ret R mc ms Z post L M cells slots (a0 :: a1 :: a2 :: a3 :: a4 :: a5 :: a6 :: a7 :: a8 :: a9 :: a10 :: some (.int x) :: t) q st) : V l G y cc nL ret R mc ms Z post L M cells slots (a0 :: a1 :: a2 :: a3 :: a4 :: a5 :: a6 :: a7 :: a8 :: a9 :: a10 :: b :: t) pc (.int x :: st) := by
  subst hq
  intro p e s m args below meth c r0 r H locs ls hC hZ hW hR hlo hls
  exact lv_istore hC.1 hC.2.1 d hls.1 hn rfl (fun ls' h' => k p e s m args below meth c r0 r H locs ls' hC hZ hW hR hlo (gH.set (i := 11) (v := .int x) hls.2 rfl h'))
theorem V_as11 (q : Nat) {a0 a1 a2 a3 a4 a5 a6 a7 a8 a9 a10 b : Option Value} {t : List (Option Value)} {x : Nat} (d : decode cc pc = .ok (.astore 11, 2)) (hn : 11 < nL) (hq : pc + 2 = q) (k : V l G y cc nL ret R mc ms Z post L M cells slots (a0 :: a1 :: a2 :: a3 :: a4 :: a5 :: a6 :: a7 :: a8 :: a9 :: a10 :: some (.ref x) :: t) q st) : V l G y cc nL ret R mc ms Z post L M cells slots (a0 :: a1 :: a2 :: a3 :: a4 :: a5 :: a6 :: a7 :: a8 :: a9 :: a10 :: b :: t) pc (.ref x :: st) := by
  subst hq
  intro p e s m args below meth c r0 r H locs ls hC hZ hW hR hlo hls
  exact lv_astore hC.1 hC.2.1 d hls.1 hn rfl (fun ls' h' => k p e s m args below meth c r0 r H locs ls' hC hZ hW hR hlo (gH.set (i := 11) (v := .ref x) hls.2 rfl h'))
theorem V_az11 (q : Nat) {a0 a1 a2 a3 a4 a5 a6 a7 a8 a9 a10 b : Option Value} {t : List (Option Value)}  (d : decode cc pc = .ok (.astore 11, 2)) (hn : 11 < nL) (hq : pc + 2 = q) (k : V l G y cc nL ret R mc ms Z post L M cells slots (a0 :: a1 :: a2 :: a3 :: a4 :: a5 :: a6 :: a7 :: a8 :: a9 :: a10 :: some (.null) :: t) q st) : V l G y cc nL ret R mc ms Z post L M cells slots (a0 :: a1 :: a2 :: a3 :: a4 :: a5 :: a6 :: a7 :: a8 :: a9 :: a10 :: b :: t) pc (.null :: st) := by
  subst hq
  intro p e s m args below meth c r0 r H locs ls hC hZ hW hR hlo hls
  exact lv_astoreN hC.1 hC.2.1 d hls.1 hn rfl (fun ls' h' => k p e s m args below meth c r0 r H locs ls' hC hZ hW hR hlo (gH.set (i := 11) (v := .null) hls.2 rfl h'))
theorem V_ii11 (q : Nat) {a0 a1 a2 a3 a4 a5 a6 a7 a8 a9 a10 : Option Value} {t : List (Option Value)} {x v : Int32} {n : Int} (d : decode cc pc = .ok (.iinc 11 n, 3)) (hn : 11 < nL) (hv : Int32.ofInt n = v) (hq : pc + 3 = q) (k : V l G y cc nL ret R mc ms Z post L M cells slots (a0 :: a1 :: a2 :: a3 :: a4 :: a5 :: a6 :: a7 :: a8 :: a9 :: a10 :: some (.int (x + v)) :: t) q st) : V l G y cc nL ret R mc ms Z post L M cells slots (a0 :: a1 :: a2 :: a3 :: a4 :: a5 :: a6 :: a7 :: a8 :: a9 :: a10 :: some (.int x) :: t) pc st := by
  subst hq
  subst hv
  intro p e s m args below meth c r0 r H locs ls hC hZ hW hR hlo hls
  obtain ⟨k9, hk9⟩ := List.getElem?_of_mem (gP_mem.mpr ⟨.int x, rfl, rfl⟩ : (11, Value.int x) ∈ gP r (a0 :: a1 :: a2 :: a3 :: a4 :: a5 :: a6 :: a7 :: a8 :: a9 :: a10 :: some (.int x) :: t))
  exact lv_iinc hC.1 hC.2.1 d hls.1 hk9 rfl hn rfl (fun ls' h' => k p e s m args below meth c r0 r H locs ls' hC hZ hW hR hlo (gH.set (i := 11) (v := .int (x + Int32.ofInt n)) hls.2 rfl h'))
theorem V_il12 (q : Nat) {a0 a1 a2 a3 a4 a5 a6 a7 a8 a9 a10 a11 : Option Value} {t : List (Option Value)} {x : Int32} (d : decode cc pc = .ok (.iload 12, 2)) (hq : pc + 2 = q) (k : V l G y cc nL ret R mc ms Z post L M cells slots (a0 :: a1 :: a2 :: a3 :: a4 :: a5 :: a6 :: a7 :: a8 :: a9 :: a10 :: a11 :: some (.int x) :: t) q (.int x :: st)) : V l G y cc nL ret R mc ms Z post L M cells slots (a0 :: a1 :: a2 :: a3 :: a4 :: a5 :: a6 :: a7 :: a8 :: a9 :: a10 :: a11 :: some (.int x) :: t) pc (st) := by
  subst hq
  intro p e s m args below meth c r0 r H locs ls hC hZ hW hR hlo hls
  exact lv_iload hC.1 hC.2.1 d (hls.at (i := 12) rfl) (k p e s m args below meth c r0 r H locs ls hC hZ hW hR hlo hls)
theorem V_al12 (q : Nat) {a0 a1 a2 a3 a4 a5 a6 a7 a8 a9 a10 a11 : Option Value} {t : List (Option Value)} {x : Nat} (d : decode cc pc = .ok (.aload 12, 2)) (hq : pc + 2 = q) (k : V l G y cc nL ret R mc ms Z post L M cells slots (a0 :: a1 :: a2 :: a3 :: a4 :: a5 :: a6 :: a7 :: a8 :: a9 :: a10 :: a11 :: some (.ref x) :: t) q (.ref x :: st)) : V l G y cc nL ret R mc ms Z post L M cells slots (a0 :: a1 :: a2 :: a3 :: a4 :: a5 :: a6 :: a7 :: a8 :: a9 :: a10 :: a11 :: some (.ref x) :: t) pc (st) := by
  subst hq
  intro p e s m args below meth c r0 r H locs ls hC hZ hW hR hlo hls
  exact lv_aload hC.1 hC.2.1 d (hls.at (i := 12) rfl) (k p e s m args below meth c r0 r H locs ls hC hZ hW hR hlo hls)
theorem V_an12 (q : Nat) {a0 a1 a2 a3 a4 a5 a6 a7 a8 a9 a10 a11 : Option Value} {t : List (Option Value)}  (d : decode cc pc = .ok (.aload 12, 2)) (hq : pc + 2 = q) (k : V l G y cc nL ret R mc ms Z post L M cells slots (a0 :: a1 :: a2 :: a3 :: a4 :: a5 :: a6 :: a7 :: a8 :: a9 :: a10 :: a11 :: some (.null) :: t) q (.null :: st)) : V l G y cc nL ret R mc ms Z post L M cells slots (a0 :: a1 :: a2 :: a3 :: a4 :: a5 :: a6 :: a7 :: a8 :: a9 :: a10 :: a11 :: some (.null) :: t) pc (st) := by
  subst hq
  intro p e s m args below meth c r0 r H locs ls hC hZ hW hR hlo hls
  exact lv_aloadN hC.1 hC.2.1 d (hls.at (i := 12) rfl) (k p e s m args below meth c r0 r H locs ls hC hZ hW hR hlo hls)
theorem V_is12 (q : Nat) {a0 a1 a2 a3 a4 a5 a6 a7 a8 a9 a10 a11 b : Option Value} {t : List (Option Value)} {x : Int32} (d : decode cc pc = .ok (.istore 12, 2)) (hn : 12 < nL) (hq : pc + 2 = q) (k : V l G y cc nL ret R mc ms Z post L M cells slots (a0 :: a1 :: a2 :: a3 :: a4 :: a5 :: a6 :: a7 :: a8 :: a9 :: a10 :: a11 :: some (.int x) :: t) q st) : V l G y cc nL ret R mc ms Z post L M cells slots (a0 :: a1 :: a2 :: a3 :: a4 :: a5 :: a6 :: a7 :: a8 :: a9 :: a10 :: a11 :: b :: t) pc (.int x :: st) := by
  subst hq
  intro p e s m args below meth c r0 r H locs ls hC hZ hW hR hlo hls
  exact lv_istore hC.1 hC.2.1 d hls.1 hn rfl (fun ls' h' => k p e s m args below meth c r0 r H locs ls' hC hZ hW hR hlo (gH.set (i := 12) (v := .int x) hls.2 rfl h'))
theorem V_as12 (q : Nat) {a0 a1 a2 a3 a4 a5 a6 a7 a8 a9 a10 a11 b : Option Value} {t : List (Option Value)} {x : Nat} (d : decode cc pc = .ok (.astore 12, 2)) (hn : 12 < nL) (hq : pc + 2 = q) (k : V l G y cc nL ret R mc ms Z post L M cells slots (a0 :: a1 :: a2 :: a3 :: a4 :: a5 :: a6 :: a7 :: a8 :: a9 :: a10 :: a11 :: some (.ref x) :: t) q st) : V l G y cc nL ret R mc ms Z post L M cells slots (a0 :: a1 :: a2 :: a3 :: a4 :: a5 :: a6 :: a7 :: a8 :: a9 :: a10 :: a11 :: b :: t) pc (.ref x :: st) := by
  subst hq
  intro p e s m args below meth c r0 r H locs ls hC hZ hW hR hlo hls
  exact lv_astore hC.1 hC.2.1 d hls.1 hn rfl (fun ls' h' => k p e s m args below meth c r0 r H locs ls' hC hZ hW hR hlo (gH.set (i := 12) (v := .ref x) hls.2 rfl h'))
theorem V_az12 (q : Nat) {a0 a1 a2 a3 a4 a5 a6 a7 a8 a9 a10 a11 b : Option Value} {t : List (Option Value)}  (d : decode cc pc = .ok (.astore 12, 2)) (hn : 12 < nL) (hq : pc + 2 = q) (k : V l G y cc nL ret R mc ms Z post L M cells slots (a0 :: a1 :: a2 :: a3 :: a4 :: a5 :: a6 :: a7 :: a8 :: a9 :: a10 :: a11 :: some (.null) :: t) q st) : V l G y cc nL ret R mc ms Z post L M cells slots (a0 :: a1 :: a2 :: a3 :: a4 :: a5 :: a6 :: a7 :: a8 :: a9 :: a10 :: a11 :: b :: t) pc (.null :: st) := by
  subst hq
  intro p e s m args below meth c r0 r H locs ls hC hZ hW hR hlo hls
  exact lv_astoreN hC.1 hC.2.1 d hls.1 hn rfl (fun ls' h' => k p e s m args below meth c r0 r H locs ls' hC hZ hW hR hlo (gH.set (i := 12) (v := .null) hls.2 rfl h'))
theorem V_ii12 (q : Nat) {a0 a1 a2 a3 a4 a5 a6 a7 a8 a9 a10 a11 : Option Value} {t : List (Option Value)} {x v : Int32} {n : Int} (d : decode cc pc = .ok (.iinc 12 n, 3)) (hn : 12 < nL) (hv : Int32.ofInt n = v) (hq : pc + 3 = q) (k : V l G y cc nL ret R mc ms Z post L M cells slots (a0 :: a1 :: a2 :: a3 :: a4 :: a5 :: a6 :: a7 :: a8 :: a9 :: a10 :: a11 :: some (.int (x + v)) :: t) q st) : V l G y cc nL ret R mc ms Z post L M cells slots (a0 :: a1 :: a2 :: a3 :: a4 :: a5 :: a6 :: a7 :: a8 :: a9 :: a10 :: a11 :: some (.int x) :: t) pc st := by
  subst hq
  subst hv
  intro p e s m args below meth c r0 r H locs ls hC hZ hW hR hlo hls
  obtain ⟨k9, hk9⟩ := List.getElem?_of_mem (gP_mem.mpr ⟨.int x, rfl, rfl⟩ : (12, Value.int x) ∈ gP r (a0 :: a1 :: a2 :: a3 :: a4 :: a5 :: a6 :: a7 :: a8 :: a9 :: a10 :: a11 :: some (.int x) :: t))
  exact lv_iinc hC.1 hC.2.1 d hls.1 hk9 rfl hn rfl (fun ls' h' => k p e s m args below meth c r0 r H locs ls' hC hZ hW hR hlo (gH.set (i := 12) (v := .int (x + Int32.ofInt n)) hls.2 rfl h'))
theorem V_il13 (q : Nat) {a0 a1 a2 a3 a4 a5 a6 a7 a8 a9 a10 a11 a12 : Option Value} {t : List (Option Value)} {x : Int32} (d : decode cc pc = .ok (.iload 13, 2)) (hq : pc + 2 = q) (k : V l G y cc nL ret R mc ms Z post L M cells slots (a0 :: a1 :: a2 :: a3 :: a4 :: a5 :: a6 :: a7 :: a8 :: a9 :: a10 :: a11 :: a12 :: some (.int x) :: t) q (.int x :: st)) : V l G y cc nL ret R mc ms Z post L M cells slots (a0 :: a1 :: a2 :: a3 :: a4 :: a5 :: a6 :: a7 :: a8 :: a9 :: a10 :: a11 :: a12 :: some (.int x) :: t) pc (st) := by
  subst hq
  intro p e s m args below meth c r0 r H locs ls hC hZ hW hR hlo hls
  exact lv_iload hC.1 hC.2.1 d (hls.at (i := 13) rfl) (k p e s m args below meth c r0 r H locs ls hC hZ hW hR hlo hls)
theorem V_al13 (q : Nat) {a0 a1 a2 a3 a4 a5 a6 a7 a8 a9 a10 a11 a12 : Option Value} {t : List (Option Value)} {x : Nat} (d : decode cc pc = .ok (.aload 13, 2)) (hq : pc + 2 = q) (k : V l G y cc nL ret R mc ms Z post L M cells slots (a0 :: a1 :: a2 :: a3 :: a4 :: a5 :: a6 :: a7 :: a8 :: a9 :: a10 :: a11 :: a12 :: some (.ref x) :: t) q (.ref x :: st)) : V l G y cc nL ret R mc ms Z post L M cells slots (a0 :: a1 :: a2 :: a3 :: a4 :: a5 :: a6 :: a7 :: a8 :: a9 :: a10 :: a11 :: a12 :: some (.ref x) :: t) pc (st) := by
  subst hq
  intro p e s m args below meth c r0 r H locs ls hC hZ hW hR hlo hls
  exact lv_aload hC.1 hC.2.1 d (hls.at (i := 13) rfl) (k p e s m args below meth c r0 r H locs ls hC hZ hW hR hlo hls)
theorem V_an13 (q : Nat) {a0 a1 a2 a3 a4 a5 a6 a7 a8 a9 a10 a11 a12 : Option Value} {t : List (Option Value)}  (d : decode cc pc = .ok (.aload 13, 2)) (hq : pc + 2 = q) (k : V l G y cc nL ret R mc ms Z post L M cells slots (a0 :: a1 :: a2 :: a3 :: a4 :: a5 :: a6 :: a7 :: a8 :: a9 :: a10 :: a11 :: a12 :: some (.null) :: t) q (.null :: st)) : V l G y cc nL ret R mc ms Z post L M cells slots (a0 :: a1 :: a2 :: a3 :: a4 :: a5 :: a6 :: a7 :: a8 :: a9 :: a10 :: a11 :: a12 :: some (.null) :: t) pc (st) := by
  subst hq
  intro p e s m args below meth c r0 r H locs ls hC hZ hW hR hlo hls
  exact lv_aloadN hC.1 hC.2.1 d (hls.at (i := 13) rfl) (k p e s m args below meth c r0 r H locs ls hC hZ hW hR hlo hls)
theorem V_is13 (q : Nat) {a0 a1 a2 a3 a4 a5 a6 a7 a8 a9 a10 a11 a12 b : Option Value} {t : List (Option Value)} {x : Int32} (d : decode cc pc = .ok (.istore 13, 2)) (hn : 13 < nL) (hq : pc + 2 = q) (k : V l G y cc nL ret R mc ms Z post L M cells slots (a0 :: a1 :: a2 :: a3 :: a4 :: a5 :: a6 :: a7 :: a8 :: a9 :: a10 :: a11 :: a12 :: some (.int x) :: t) q st) : V l G y cc nL ret R mc ms Z post L M cells slots (a0 :: a1 :: a2 :: a3 :: a4 :: a5 :: a6 :: a7 :: a8 :: a9 :: a10 :: a11 :: a12 :: b :: t) pc (.int x :: st) := by
  subst hq
  intro p e s m args below meth c r0 r H locs ls hC hZ hW hR hlo hls
  exact lv_istore hC.1 hC.2.1 d hls.1 hn rfl (fun ls' h' => k p e s m args below meth c r0 r H locs ls' hC hZ hW hR hlo (gH.set (i := 13) (v := .int x) hls.2 rfl h'))
theorem V_as13 (q : Nat) {a0 a1 a2 a3 a4 a5 a6 a7 a8 a9 a10 a11 a12 b : Option Value} {t : List (Option Value)} {x : Nat} (d : decode cc pc = .ok (.astore 13, 2)) (hn : 13 < nL) (hq : pc + 2 = q) (k : V l G y cc nL ret R mc ms Z post L M cells slots (a0 :: a1 :: a2 :: a3 :: a4 :: a5 :: a6 :: a7 :: a8 :: a9 :: a10 :: a11 :: a12 :: some (.ref x) :: t) q st) : V l G y cc nL ret R mc ms Z post L M cells slots (a0 :: a1 :: a2 :: a3 :: a4 :: a5 :: a6 :: a7 :: a8 :: a9 :: a10 :: a11 :: a12 :: b :: t) pc (.ref x :: st) := by
  subst hq
  intro p e s m args below meth c r0 r H locs ls hC hZ hW hR hlo hls
  exact lv_astore hC.1 hC.2.1 d hls.1 hn rfl (fun ls' h' => k p e s m args below meth c r0 r H locs ls' hC hZ hW hR hlo (gH.set (i := 13) (v := .ref x) hls.2 rfl h'))
theorem V_az13 (q : Nat) {a0 a1 a2 a3 a4 a5 a6 a7 a8 a9 a10 a11 a12 b : Option Value} {t : List (Option Value)}  (d : decode cc pc = .ok (.astore 13, 2)) (hn : 13 < nL) (hq : pc + 2 = q) (k : V l G y cc nL ret R mc ms Z post L M cells slots (a0 :: a1 :: a2 :: a3 :: a4 :: a5 :: a6 :: a7 :: a8 :: a9 :: a10 :: a11 :: a12 :: some (.null) :: t) q st) : V l G y cc nL ret R mc ms Z post L M cells slots (a0 :: a1 :: a2 :: a3 :: a4 :: a5 :: a6 :: a7 :: a8 :: a9 :: a10 :: a11 :: a12 :: b :: t) pc (.null :: st) := by
  subst hq
  intro p e s m args below meth c r0 r H locs ls hC hZ hW hR hlo hls
  exact lv_astoreN hC.1 hC.2.1 d hls.1 hn rfl (fun ls' h' => k p e s m args below meth c r0 r H locs ls' hC hZ hW hR hlo (gH.set (i := 13) (v := .null) hls.2 rfl h'))
theorem V_ii13 (q : Nat) {a0 a1 a2 a3 a4 a5 a6 a7 a8 a9 a10 a11 a12 : Option Value} {t : List (Option Value)} {x v : Int32} {n : Int} (d : decode cc pc = .ok (.iinc 13 n, 3)) (hn : 13 < nL) (hv : Int32.ofInt n = v) (hq : pc + 3 = q) (k : V l G y cc nL ret R mc ms Z post L M cells slots (a0 :: a1 :: a2 :: a3 :: a4 :: a5 :: a6 :: a7 :: a8 :: a9 :: a10 :: a11 :: a12 :: some (.int (x + v)) :: t) q st) : V l G y cc nL ret R mc ms Z post L M cells slots (a0 :: a1 :: a2 :: a3 :: a4 :: a5 :: a6 :: a7 :: a8 :: a9 :: a10 :: a11 :: a12 :: some (.int x) :: t) pc st := by
  subst hq
  subst hv
  intro p e s m args below meth c r0 r H locs ls hC hZ hW hR hlo hls
  obtain ⟨k9, hk9⟩ := List.getElem?_of_mem (gP_mem.mpr ⟨.int x, rfl, rfl⟩ : (13, Value.int x) ∈ gP r (a0 :: a1 :: a2 :: a3 :: a4 :: a5 :: a6 :: a7 :: a8 :: a9 :: a10 :: a11 :: a12 :: some (.int x) :: t))
  exact lv_iinc hC.1 hC.2.1 d hls.1 hk9 rfl hn rfl (fun ls' h' => k p e s m args below meth c r0 r H locs ls' hC hZ hW hR hlo (gH.set (i := 13) (v := .int (x + Int32.ofInt n)) hls.2 rfl h'))
theorem V_il14 (q : Nat) {a0 a1 a2 a3 a4 a5 a6 a7 a8 a9 a10 a11 a12 a13 : Option Value} {t : List (Option Value)} {x : Int32} (d : decode cc pc = .ok (.iload 14, 2)) (hq : pc + 2 = q) (k : V l G y cc nL ret R mc ms Z post L M cells slots (a0 :: a1 :: a2 :: a3 :: a4 :: a5 :: a6 :: a7 :: a8 :: a9 :: a10 :: a11 :: a12 :: a13 :: some (.int x) :: t) q (.int x :: st)) : V l G y cc nL ret R mc ms Z post L M cells slots (a0 :: a1 :: a2 :: a3 :: a4 :: a5 :: a6 :: a7 :: a8 :: a9 :: a10 :: a11 :: a12 :: a13 :: some (.int x) :: t) pc (st) := by
  subst hq
  intro p e s m args below meth c r0 r H locs ls hC hZ hW hR hlo hls
  exact lv_iload hC.1 hC.2.1 d (hls.at (i := 14) rfl) (k p e s m args below meth c r0 r H locs ls hC hZ hW hR hlo hls)
theorem V_al14 (q : Nat) {a0 a1 a2 a3 a4 a5 a6 a7 a8 a9 a10 a11 a12 a13 : Option Value} {t : List (Option Value)} {x : Nat} (d : decode cc pc = .ok (.aload 14, 2)) (hq : pc + 2 = q) (k : V l G y cc nL ret R mc ms Z post L M cells slots (a0 :: a1 :: a2 :: a3 :: a4 :: a5 :: a6 :: a7 :: a8 :: a9 :: a10 :: a11 :: a12 :: a13 :: some (.ref x) :: t) q (.ref x :: st)) : V l G y cc nL ret R mc ms Z post L M cells slots (a0 :: a1 :: a2 :: a3 :: a4 :: a5 :: a6 :: a7 :: a8 :: a9 :: a10 :: a11 :: a12 :: a13 :: some (.ref x) :: t) pc (st) := by
  subst hq
  intro p e s m args below meth c r0 r H locs ls hC hZ hW hR hlo hls
  exact lv_aload hC.1 hC.2.1 d (hls.at (i := 14) rfl) (k p e s m args below meth c r0 r H locs ls hC hZ hW hR hlo hls)
theorem V_an14 (q : Nat) {a0 a1 a2 a3 a4 a5 a6 a7 a8 a9 a10 a11 a12 a13 : Option Value} {t : List (Option Value)}  (d : decode cc pc = .ok (.aload 14, 2)) (hq : pc + 2 = q) (k : V l G y cc nL ret R mc ms Z post L M cells slots (a0 :: a1 :: a2 :: a3 :: a4 :: a5 :: a6 :: a7 :: a8 :: a9 :: a10 :: a11 :: a12 :: a13 :: some (.null) :: t) q (.null :: st)) : V l G y cc nL ret R mc ms Z post L M cells slots (a0 :: a1 :: a2 :: a3 :: a4 :: a5 :: a6 :: a7 :: a8 :: a9 :: a10 :: a11 :: a12 :: a13 :: some (.null) :: t) pc (st) := by
  subst hq
  intro p e s m args below meth c r0 r H locs ls hC hZ hW hR hlo hls
  exact lv_aloadN hC.1 hC.2.1 d (hls.at (i := 14) rfl) (k p e s m args below meth c r0 r H locs ls hC hZ hW hR hlo hls)
theorem V_is14 (q : Nat) {a0 a1 a2 a3 a4 a5 a6 a7 a8 a9 a10 a11 a12 a13 b : Option Value} {t : List (Option Value)} {x : Int32} (d : decode cc pc = .ok (.istore 14, 2)) (hn : 14 < nL) (hq : pc + 2 = q) (k : V l G y cc nL ret R mc ms Z post L M cells slots (a0 :: a1 :: a2 :: a3 :: a4 :: a5 :: a6 :: a7 :: a8 :: a9 :: a10 :: a11 :: a12 :: a13 :: some (.int x) :: t) q st) : V l G y cc nL ret R mc ms Z post L M cells slots (a0 :: a1 :: a2 :: a3 :: a4 :: a5 :: a6 :: a7 :: a8 :: a9 :: a10 :: a11 :: a12 :: a13 :: b :: t) pc (.int x :: st) := by
  subst hq
  intro p e s m args below meth c r0 r H locs ls hC hZ hW hR hlo hls
  exact lv_istore hC.1 hC.2.1 d hls.1 hn rfl (fun ls' h' => k p e s m args below meth c r0 r H locs ls' hC hZ hW hR hlo (gH.set (i := 14) (v := .int x) hls.2 rfl h'))
theorem V_as14 (q : Nat) {a0 a1 a2 a3 a4 a5 a6 a7 a8 a9 a10 a11 a12 a13 b : Option Value} {t : List (Option Value)} {x : Nat} (d : decode cc pc = .ok (.astore 14, 2)) (hn : 14 < nL) (hq : pc + 2 = q) (k : V l G y cc nL ret R mc ms Z post L M cells slots (a0 :: a1 :: a2 :: a3 :: a4 :: a5 :: a6 :: a7 :: a8 :: a9 :: a10 :: a11 :: a12 :: a13 :: some (.ref x) :: t) q st) : V l G y cc nL ret R mc ms Z post L M cells slots (a0 :: a1 :: a2 :: a3 :: a4 :: a5 :: a6 :: a7 :: a8 :: a9 :: a10 :: a11 :: a12 :: a13 :: b :: t) pc (.ref x :: st) := by
  subst hq
  intro p e s m args below meth c r0 r H locs ls hC hZ hW hR hlo hls
  exact lv_astore hC.1 hC.2.1 d hls.1 hn rfl (fun ls' h' => k p e s m args below meth c r0 r H locs ls' hC hZ hW hR hlo (gH.set (i := 14) (v := .ref x) hls.2 rfl h'))
theorem V_az14 (q : Nat) {a0 a1 a2 a3 a4 a5 a6 a7 a8 a9 a10 a11 a12 a13 b : Option Value} {t : List (Option Value)}  (d : decode cc pc = .ok (.astore 14, 2)) (hn : 14 < nL) (hq : pc + 2 = q) (k : V l G y cc nL ret R mc ms Z post L M cells slots (a0 :: a1 :: a2 :: a3 :: a4 :: a5 :: a6 :: a7 :: a8 :: a9 :: a10 :: a11 :: a12 :: a13 :: some (.null) :: t) q st) : V l G y cc nL ret R mc ms Z post L M cells slots (a0 :: a1 :: a2 :: a3 :: a4 :: a5 :: a6 :: a7 :: a8 :: a9 :: a10 :: a11 :: a12 :: a13 :: b :: t) pc (.null :: st) := by
  subst hq
  intro p e s m args below meth c r0 r H locs ls hC hZ hW hR hlo hls
  exact lv_astoreN hC.1 hC.2.1 d hls.1 hn rfl (fun ls' h' => k p e s m args below meth c r0 r H locs ls' hC hZ hW hR hlo (gH.set (i := 14) (v := .null) hls.2 rfl h'))
theorem V_ii14 (q : Nat) {a0 a1 a2 a3 a4 a5 a6 a7 a8 a9 a10 a11 a12 a13 : Option Value} {t : List (Option Value)} {x v : Int32} {n : Int} (d : decode cc pc = .ok (.iinc 14 n, 3)) (hn : 14 < nL) (hv : Int32.ofInt n = v) (hq : pc + 3 = q) (k : V l G y cc nL ret R mc ms Z post L M cells slots (a0 :: a1 :: a2 :: a3 :: a4 :: a5 :: a6 :: a7 :: a8 :: a9 :: a10 :: a11 :: a12 :: a13 :: some (.int (x + v)) :: t) q st) : V l G y cc nL ret R mc ms Z post L M cells slots (a0 :: a1 :: a2 :: a3 :: a4 :: a5 :: a6 :: a7 :: a8 :: a9 :: a10 :: a11 :: a12 :: a13 :: some (.int x) :: t) pc st := by
  subst hq
  subst hv
  intro p e s m args below meth c r0 r H locs ls hC hZ hW hR hlo hls
  obtain ⟨k9, hk9⟩ := List.getElem?_of_mem (gP_mem.mpr ⟨.int x, rfl, rfl⟩ : (14, Value.int x) ∈ gP r (a0 :: a1 :: a2 :: a3 :: a4 :: a5 :: a6 :: a7 :: a8 :: a9 :: a10 :: a11 :: a12 :: a13 :: some (.int x) :: t))
  exact lv_iinc hC.1 hC.2.1 d hls.1 hk9 rfl hn rfl (fun ls' h' => k p e s m args below meth c r0 r H locs ls' hC hZ hW hR hlo (gH.set (i := 14) (v := .int (x + Int32.ofInt n)) hls.2 rfl h'))
theorem V_il15 (q : Nat) {a0 a1 a2 a3 a4 a5 a6 a7 a8 a9 a10 a11 a12 a13 a14 : Option Value} {t : List (Option Value)} {x : Int32} (d : decode cc pc = .ok (.iload 15, 2)) (hq : pc + 2 = q) (k : V l G y cc nL ret R mc ms Z post L M cells slots (a0 :: a1 :: a2 :: a3 :: a4 :: a5 :: a6 :: a7 :: a8 :: a9 :: a10 :: a11 :: a12 :: a13 :: a14 :: some (.int x) :: t) q (.int x :: st)) : V l G y cc nL ret R mc ms Z post L M cells slots (a0 :: a1 :: a2 :: a3 :: a4 :: a5 :: a6 :: a7 :: a8 :: a9 :: a10 :: a11 :: a12 :: a13 :: a14 :: some (.int x) :: t) pc (st) := by
  subst hq
  intro p e s m args below meth c r0 r H locs ls hC hZ hW hR hlo hls
  exact lv_iload hC.1 hC.2.1 d (hls.at (i := 15) rfl) (k p e s m args below meth c r0 r H locs ls hC hZ hW hR hlo hls)
theorem V_al15 (q : Nat) {a0 a1 a2 a3 a4 a5 a6 a7 a8 a9 a10 a11 a12 a13 a14 : Option Value} {t : List (Option Value)} {x : Nat} (d : decode cc pc = .ok (.aload 15, 2)) (hq : pc + 2 = q) (k : V l G y cc nL ret R mc ms Z post L M cells slots (a0 :: a1 :: a2 :: a3 :: a4 :: a5 :: a6 :: a7 :: a8 :: a9 :: a10 :: a11 :: a12 :: a13 :: a14 :: some (.ref x) :: t) q (.ref x :: st)) : V l G y cc nL ret R mc ms Z post L M cells slots (a0 :: a1 :: a2 :: a3 :: a4 :: a5 :: a6 :: a7 :: a8 :: a9 :: a10 :: a11 :: a12 :: a13 :: a14 :: some (.ref x) :: t) pc (st) := by
  subst hq
  intro p e s m args below meth c r0 r H locs ls hC hZ hW hR hlo hls
  exact lv_aload hC.1 hC.2.1 d (hls.at (i := 15) rfl) (k p e s m args below meth c r0 r H locs ls hC hZ hW hR hlo hls)
theorem V_an15 (q : Nat) {a0 a1 a2 a3 a4 a5 a6 a7 a8 a9 a10 a11 a12 a13 a14 : Option Value} {t : List (Option Value)}  (d : decode cc pc = .ok (.aload 15, 2)) (hq : pc + 2 = q) (k : V l G y cc nL ret R mc ms Z post L M cells slots (a0 :: a1 :: a2 :: a3 :: a4 :: a5 :: a6 :: a7 :: a8 :: a9 :: a10 :: a11 :: a12 :: a13 :: a14 :: some (.null) :: t) q (.null :: st)) : V l G y cc nL ret R mc ms Z post L M cells slots (a0 :: a1 :: a2 :: a3 :: a4 :: a5 :: a6 :: a7 :: a8 :: a9 :: a10 :: a11 :: a12 :: a13 :: a14 :: some (.null) :: t) pc (st) := by
  subst hq
  intro p e s m args below meth c r0 r H locs ls hC hZ hW hR hlo hls
  exact lv_aloadN hC.1 hC.2.1 d (hls.at (i := 15) rfl) (k p e s m args below meth c r0 r H locs ls hC hZ hW hR hlo hls)
theorem V_is15 (q : Nat) {a0 a1 a2 a3 a4 a5 a6 a7 a8 a9 a10 a11 a12 a13 a14 b : Option Value} {t : List (Option Value)} {x : Int32} (d : decode cc pc = .ok (.istore 15, 2)) (hn : 15 < nL) (hq : pc + 2 = q) (k : V l G y cc nL ret R mc ms Z post L M cells slots (a0 :: a1 :: a2 :: a3 :: a4 :: a5 :: a6 :: a7 :: a8 :: a9 :: a10 :: a11 :: a12 :: a13 :: a14 :: some (.int x) :: t) q st) : V l G y cc nL ret R mc ms Z post L M cells slots (a0 :: a1 :: a2 :: a3 :: a4 :: a5 :: a6 :: a7 :: a8 :: a9 :: a10 :: a11 :: a12 :: a13 :: a14 :: b :: t) pc (.int x :: st) := by
  subst hq
  intro p e s m args below meth c r0 r H locs ls hC hZ hW hR hlo hls
  exact lv_istore hC.1 hC.2.1 d hls.1 hn rfl (fun ls' h' => k p e s m args below meth c r0 r H locs ls' hC hZ hW hR hlo (gH.set (i := 15) (v := .int x) hls.2 rfl h'))
theorem V_as15 (q : Nat) {a0 a1 a2 a3 a4 a5 a6 a7 a8 a9 a10 a11 a12 a13 a14 b : Option Value} {t : List (Option Value)} {x : Nat} (d : decode cc pc = .ok (.astore 15, 2)) (hn : 15 < nL) (hq : pc + 2 = q) (k : V l G y cc nL ret R mc ms Z post L M cells slots (a0 :: a1 :: a2 :: a3 :: a4 :: a5 :: a6 :: a7 :: a8 :: a9 :: a10 :: a11 :: a12 :: a13 :: a14 :: some (.ref x) :: t) q st) : V l G y cc nL ret R mc ms Z post L M cells slots (a0 :: a1 :: a2 :: a3 :: a4 :: a5 :: a6 :: a7 :: a8 :: a9 :: a10 :: a11 :: a12 :: a13 :: a14 :: b :: t) pc (.ref x :: st) := by
  subst hq
  intro p e s m args below meth c r0 r H locs ls hC hZ hW hR hlo hls
  exact lv_astore hC.1 hC.2.1 d hls.1 hn rfl (fun ls' h' => k p e s m args below meth c r0 r H locs ls' hC hZ hW hR hlo (gH.set (i := 15) (v := .ref x) hls.2 rfl h'))
theorem V_az15 (q : Nat) {a0 a1 a2 a3 a4 a5 a6 a7 a8 a9 a10 a11 a12 a13 a14 b : Option Value} {t : List (Option Value)}  (d : decode cc pc = .ok (.astore 15, 2)) (hn : 15 < nL) (hq : pc + 2 = q) (k : V l G y cc nL ret R mc ms Z post L M cells slots (a0 :: a1 :: a2 :: a3 :: a4 :: a5 :: a6 :: a7 :: a8 :: a9 :: a10 :: a11 :: a12 :: a13 :: a14 :: some (.null) :: t) q st) : V l G y cc nL ret R mc ms Z post L M cells slots (a0 :: a1 :: a2 :: a3 :: a4 :: a5 :: a6 :: a7 :: a8 :: a9 :: a10 :: a11 :: a12 :: a13 :: a14 :: b :: t) pc (.null :: st) := by
  subst hq
  intro p e s m args below meth c r0 r H locs ls hC hZ hW hR hlo hls
  exact lv_astoreN hC.1 hC.2.1 d hls.1 hn rfl (fun ls' h' => k p e s m args below meth c r0 r H locs ls' hC hZ hW hR hlo (gH.set (i := 15) (v := .null) hls.2 rfl h'))
theorem V_ii15 (q : Nat) {a0 a1 a2 a3 a4 a5 a6 a7 a8 a9 a10 a11 a12 a13 a14 : Option Value} {t : List (Option Value)} {x v : Int32} {n : Int} (d : decode cc pc = .ok (.iinc 15 n, 3)) (hn : 15 < nL) (hv : Int32.ofInt n = v) (hq : pc + 3 = q) (k : V l G y cc nL ret R mc ms Z post L M cells slots (a0 :: a1 :: a2 :: a3 :: a4 :: a5 :: a6 :: a7 :: a8 :: a9 :: a10 :: a11 :: a12 :: a13 :: a14 :: some (.int (x + v)) :: t) q st) : V l G y cc nL ret R mc ms Z post L M cells slots (a0 :: a1 :: a2 :: a3 :: a4 :: a5 :: a6 :: a7 :: a8 :: a9 :: a10 :: a11 :: a12 :: a13 :: a14 :: some (.int x) :: t) pc st := by
  subst hq
  subst hv
  intro p e s m args below meth c r0 r H locs ls hC hZ hW hR hlo hls
  obtain ⟨k9, hk9⟩ := List.getElem?_of_mem (gP_mem.mpr ⟨.int x, rfl, rfl⟩ : (15, Value.int x) ∈ gP r (a0 :: a1 :: a2 :: a3 :: a4 :: a5 :: a6 :: a7 :: a8 :: a9 :: a10 :: a11 :: a12 :: a13 :: a14 :: some (.int x) :: t))
  exact lv_iinc hC.1 hC.2.1 d hls.1 hk9 rfl hn rfl (fun ls' h' => k p e s m args below meth c r0 r H locs ls' hC hZ hW hR hlo (gH.set (i := 15) (v := .int (x + Int32.ofInt n)) hls.2 rfl h'))
theorem V_il16 (q : Nat) {a0 a1 a2 a3 a4 a5 a6 a7 a8 a9 a10 a11 a12 a13 a14 a15 : Option Value} {t : List (Option Value)} {x : Int32} (d : decode cc pc = .ok (.iload 16, 2)) (hq : pc + 2 = q) (k : V l G y cc nL ret R mc ms Z post L M cells slots (a0 :: a1 :: a2 :: a3 :: a4 :: a5 :: a6 :: a7 :: a8 :: a9 :: a10 :: a11 :: a12 :: a13 :: a14 :: a15 :: some (.int x) :: t) q (.int x :: st)) : V l G y cc nL ret R mc ms Z post L M cells slots (a0 :: a1 :: a2 :: a3 :: a4 :: a5 :: a6 :: a7 :: a8 :: a9 :: a10 :: a11 :: a12 :: a13 :: a14 :: a15 :: some (.int x) :: t) pc (st) := by
  subst hq
  intro p e s m args below meth c r0 r H locs ls hC hZ hW hR hlo hls
  exact lv_iload hC.1 hC.2.1 d (hls.at (i := 16) rfl) (k p e s m args below meth c r0 r H locs ls hC hZ hW hR hlo hls)
theorem V_al16 (q : Nat) {a0 a1 a2 a3 a4 a5 a6 a7 a8 a9 a10 a11 a12 a13 a14 a15 : Option Value} {t : List (Option Value)} {x : Nat} (d : decode cc pc = .ok (.aload 16, 2)) (hq : pc + 2 = q) (k : V l G y cc nL ret R mc ms Z post L M cells slots (a0 :: a1 :: a2 :: a3 :: a4 :: a5 :: a6 :: a7 :: a8 :: a9 :: a10 :: a11 :: a12 :: a13 :: a14 :: a15 :: some (.ref x) :: t) q (.ref x :: st)) : V l G y cc nL ret R mc ms Z post L M cells slots (a0 :: a1 :: a2 :: a3 :: a4 :: a5 :: a6 :: a7 :: a8 :: a9 :: a10 :: a11 :: a12 :: a13 :: a14 :: a15 :: some (.ref x) :: t) pc (st) := by
  subst hq
  intro p e s m args below meth c r0 r H locs ls hC hZ hW hR hlo hls
  exact lv_aload hC.1 hC.2.1 d (hls.at (i := 16) rfl) (k p e s m args below meth c r0 r H locs ls hC hZ hW hR hlo hls)
theorem V_an16 (q : Nat) {a0 a1 a2 a3 a4 a5 a6 a7 a8 a9 a10 a11 a12 a13 a14 a15 : Option Value} {t : List (Option Value)}  (d : decode cc pc = .ok (.aload 16, 2)) (hq : pc + 2 = q) (k : V l G y cc nL ret R mc ms Z post L M cells slots (a0 :: a1 :: a2 :: a3 :: a4 :: a5 :: a6 :: a7 :: a8 :: a9 :: a10 :: a11 :: a12 :: a13 :: a14 :: a15 :: some (.null) :: t) q (.null :: st)) : V l G y cc nL ret R mc ms Z post L M cells slots (a0 :: a1 :: a2 :: a3 :: a4 :: a5 :: a6 :: a7 :: a8 :: a9 :: a10 :: a11 :: a12 :: a13 :: a14 :: a15 :: some (.null) :: t) pc (st) := by
  subst hq
  intro p e s m args below meth c r0 r H locs ls hC hZ hW hR hlo hls
  exact lv_aloadN hC.1 hC.2.1 d (hls.at (i := 16) rfl) (k p e s m args below meth c r0 r H locs ls hC hZ hW hR hlo hls)
theorem V_is16 (q : Nat) {a0 a1 a2 a3 a4 a5 a6 a7 a8 a9 a10 a11 a12 a13 a14 a15 b : Option Value} {t : List (Option Value)} {x : Int32} (d : decode cc pc = .ok (.istore 16, 2)) (hn : 16 < nL) (hq : pc + 2 = q) (k : V l G y cc nL ret R mc ms Z post L M cells slots (a0 :: a1 :: a2 :: a3 :: a4 :: a5 :: a6 :: a7 :: a8 :: a9 :: a10 :: a11 :: a12 :: a13 :: a14 :: a15 :: some (.int x) :: t) q st) : V l G y cc nL ret R mc ms Z post L M cells slots (a0 :: a1 :: a2 :: a3 :: a4 :: a5 :: a6 :: a7 :: a8 :: a9 :: a10 :: a11 :: a12 :: a13 :: a14 :: a15 :: b :: t) pc (.int x :: st) := by
  subst hq
  intro p e s m args below meth c r0 r H locs ls hC hZ hW hR hlo hls
  exact lv_istore hC.1 hC.2.1 d hls.1 hn rfl (fun ls' h' => k p e s m args below meth c r0 r H locs ls' hC hZ hW hR hlo (gH.set (i := 16) (v := .int x) hls.2 rfl h'))
theorem V_as16 (q : Nat) {a0 a1 a2 a3 a4 a5 a6 a7 a8 a9 a10 a11 a12 a13 a14 a15 b : Option Value} {t : List (Option Value)} {x : Nat} (d : decode cc pc = .ok (.astore 16, 2)) (hn : 16 < nL) (hq : pc + 2 = q) (k : V l G y cc nL ret R mc ms Z post L M cells slots (a0 :: a1 :: a2 :: a3 :: a4 :: a5 :: a6 :: a7 :: a8 :: a9 :: a10 :: a11 :: a12 :: a13 :: a14 :: a15 :: some (.ref x) :: t) q st) : V l G y cc nL ret R mc ms Z post L M cells slots (a0 :: a1 :: a2 :: a3 :: a4 :: a5 :: a6 :: a7 :: a8 :: a9 :: a10 :: a11 :: a12 :: a13 :: a14 :: a15 :: b :: t) pc (.ref x :: st) := by
  subst hq
  intro p e s m args below meth c r0 r H locs ls hC hZ hW hR hlo hls
  exact lv_astore hC.1 hC.2.1 d hls.1 hn rfl (fun ls' h' => k p e s m args below meth c r0 r H locs ls' hC hZ hW hR hlo (gH.set (i := 16) (v := .ref x) hls.2 rfl h'))
theorem V_az16 (q : Nat) {a0 a1 a2 a3 a4 a5 a6 a7 a8 a9 a10 a11 a12 a13 a14 a15 b : Option Value} {t : List (Option Value)}  (d : decode cc pc = .ok (.astore 16, 2)) (hn : 16 < nL) (hq : pc + 2 = q) (k : V l G y cc nL ret R mc ms Z post L M cells slots (a0 :: a1 :: a2 :: a3 :: a4 :: a5 :: a6 :: a7 :: a8 :: a9 :: a10 :: a11 :: a12 :: a13 :: a14 :: a15 :: some (.null) :: t) q st) : V l G y cc nL ret R mc ms Z post L M cells slots (a0 :: a1 :: a2 :: a3 :: a4 :: a5 :: a6 :: a7 :: a8 :: a9 :: a10 :: a11 :: a12 :: a13 :: a14 :: a15 :: b :: t) pc (.null :: st) := by
  subst hq
  intro p e s m args below meth c r0 r H locs ls hC hZ hW hR hlo hls
  exact lv_astoreN hC.1 hC.2.1 d hls.1 hn rfl (fun ls' h' => k p e s m args below meth c r0 r H locs ls' hC hZ hW hR hlo (gH.set (i := 16) (v := .null) hls.2 rfl h'))
theorem V_ii16 (q : Nat) {a0 a1 a2 a3 a4 a5 a6 a7 a8 a9 a10 a11 a12 a13 a14 a15 : Option Value} {t : List (Option Value)} {x v : Int32} {n : Int} (d : decode cc pc = .ok (.iinc 16 n, 3)) (hn : 16 < nL) (hv : Int32.ofInt n = v) (hq : pc + 3 = q) (k : V l G y cc nL ret R mc ms Z post L M cells slots (a0 :: a1 :: a2 :: a3 :: a4 :: a5 :: a6 :: a7 :: a8 :: a9 :: a10 :: a11 :: a12 :: a13 :: a14 :: a15 :: some (.int (x + v)) :: t) q st) : V l G y cc nL ret R mc ms Z post L M cells slots (a0 :: a1 :: a2 :: a3 :: a4 :: a5 :: a6 :: a7 :: a8 :: a9 :: a10 :: a11 :: a12 :: a13 :: a14 :: a15 :: some (.int x) :: t) pc st := by
  subst hq
  subst hv
  intro p e s m args below meth c r0 r H locs ls hC hZ hW hR hlo hls
  obtain ⟨k9, hk9⟩ := List.getElem?_of_mem (gP_mem.mpr ⟨.int x, rfl, rfl⟩ : (16, Value.int x) ∈ gP r (a0 :: a1 :: a2 :: a3 :: a4 :: a5 :: a6 :: a7 :: a8 :: a9 :: a10 :: a11 :: a12 :: a13 :: a14 :: a15 :: some (.int x) :: t))
  exact lv_iinc hC.1 hC.2.1 d hls.1 hk9 rfl hn rfl (fun ls' h' => k p e s m args below meth c r0 r H locs ls' hC hZ hW hR hlo (gH.set (i := 16) (v := .int (x + Int32.ofInt n)) hls.2 rfl h'))
theorem V_il17 (q : Nat) {a0 a1 a2 a3 a4 a5 a6 a7 a8 a9 a10 a11 a12 a13 a14 a15 a16 : Option Value} {t : List (Option Value)} {x : Int32} (d : decode cc pc = .ok (.iload 17, 2)) (hq : pc + 2 = q) (k : V l G y cc nL ret R mc ms Z post L M cells slots (a0 :: a1 :: a2 :: a3 :: a4 :: a5 :: a6 :: a7 :: a8 :: a9 :: a10 :: a11 :: a12 :: a13 :: a14 :: a15 :: a16 :: some (.int x) :: t) q (.int x :: st)) : V l G y cc nL ret R mc ms Z post L M cells slots (a0 :: a1 :: a2 :: a3 :: a4 :: a5 :: a6 :: a7 :: a8 :: a9 :: a10 :: a11 :: a12 :: a13 :: a14 :: a15 :: a16 :: some (.int x) :: t) pc (st) := by
  subst hq
  intro p e s m args below meth c r0 r H locs ls hC hZ hW hR hlo hls
  exact lv_iload hC.1 hC.2.1 d (hls.at (i := 17) rfl) (k p e s m args below meth c r0 r H locs ls hC hZ hW hR hlo hls)
theorem V_al17 (q : Nat) {a0 a1 a2 a3 a4 a5 a6 a7 a8 a9 a10 a11 a12 a13 a14 a15 a16 : Option Value} {t : List (Option Value)} {x : Nat} (d : decode cc pc = .ok (.aload 17, 2)) (hq : pc + 2 = q) (k : V l G y cc nL ret R mc ms Z post L M cells slots (a0 :: a1 :: a2 :: a3 :: a4 :: a5 :: a6 :: a7 :: a8 :: a9 :: a10 :: a11 :: a12 :: a13 :: a14 :: a15 :: a16 :: some (.ref x) :: t) q (.ref x :: st)) : V l G y cc nL ret R mc ms Z post L M cells slots (a0 :: a1 :: a2 :: a3 :: a4 :: a5 :: a6 :: a7 :: a8 :: a9 :: a10 :: a11 :: a12 :: a13 :: a14 :: a15 :: a16 :: some (.ref x) :: t) pc (st) := by
  subst hq
  intro p e s m args below meth c r0 r H locs ls hC hZ hW hR hlo hls
  exact lv_aload hC.1 hC.2.1 d (hls.at (i := 17) rfl) (k p e s m args below meth c r0 r H locs ls hC hZ hW hR hlo hls)
theorem V_an17 (q : Nat) {a0 a1 a2 a3 a4 a5 a6 a7 a8 a9 a10 a11 a12 a13 a14 a15 a16 : Option Value} {t : List (Option Value)}  (d : decode cc pc = .ok (.aload 17, 2)) (hq : pc + 2 = q) (k : V l G y cc nL ret R mc ms Z post L M cells slots (a0 :: a1 :: a2 :: a3 :: a4 :: a5 :: a6 :: a7 :: a8 :: a9 :: a10 :: a11 :: a12 :: a13 :: a14 :: a15 :: a16 :: some (.null) :: t) q (.null :: st)) : V l G y cc nL ret R mc ms Z post L M cells slots (a0 :: a1 :: a2 :: a3 :: a4 :: a5 :: a6 :: a7 :: a8 :: a9 :: a10 :: a11 :: a12 :: a13 :: a14 :: a15 :: a16 :: some (.null) :: t) pc (st) := by
  subst hq
  intro p e s m args below meth c r0 r H locs ls hC hZ hW hR hlo hls
  exact lv_aloadN hC.1 hC.2.1 d (hls.at (i := 17) rfl) (k p e s m args below meth c r0 r H locs ls hC hZ hW hR hlo hls)
theorem V_is17 (q : Nat) {a0 a1 a2 a3 a4 a5 a6 a7 a8 a9 a10 a11 a12 a13 a14 a15 a16 b : Option Value} {t : List (Option Value)} {x : Int32} (d : decode cc pc = .ok (.istore 17, 2)) (hn : 17 < nL) (hq : pc + 2 = q) (k : V l G y cc nL ret R mc ms Z post L M cells slots (a0 :: a1 :: a2 :: a3 :: a4 :: a5 :: a6 :: a7 :: a8 :: a9 :: a10 :: a11 :: a12 :: a13 :: a14 :: a15 :: a16 :: some (.int x) :: t) q st) : V l G y cc nL ret R mc ms Z post L M cells slots (a0 :: a1 :: a2 :: a3 :: a4 :: a5 :: a6 :: a7 :: a8 :: a9 :: a10 :: a11 :: a12 :: a13 :: a14 :: a15 :: a16 :: b :: t) pc (.int x :: st) := by
  subst hq
  intro p e s m args below meth c r0 r H locs ls hC hZ hW hR hlo hls
  exact lv_istore hC.1 hC.2.1 d hls.1 hn rfl (fun ls' h' => k p e s m args below meth c r0 r H locs ls' hC hZ hW hR hlo (gH.set (i := 17) (v := .int x) hls.2 rfl h'))
theorem V_as17 (q : Nat) {a0 a1 a2 a3 a4 a5 a6 a7 a8 a9 a10 a11 a12 a13 a14 a15 a16 b : Option Value} {t : List (Option Value)} {x : Nat} (d : decode cc pc = .ok (.astore 17, 2)) (hn : 17 < nL) (hq : pc + 2 = q) (k : V l G y cc nL ret R mc ms Z post L M cells slots (a0 :: a1 :: a2 :: a3 :: a4 :: a5 :: a6 :: a7 :: a8 :: a9 :: a10 :: a11 :: a12 :: a13 :: a14 :: a15 :: a16 :: some (.ref x) :: t) q st) : V l G y cc nL ret R mc ms Z post L M cells slots (a0 :: a1 :: a2 :: a3 :: a4 :: a5 :: a6 :: a7 :: a8 :: a9 :: a10 :: a11 :: a12 :: a13 :: a14 :: a15 :: a16 :: b :: t) pc (.ref x :: st) := by
  subst hq
  intro p e s m args below meth c r0 r H locs ls hC hZ hW hR hlo hls
  exact lv_astore hC.1 hC.2.1 d hls.1 hn rfl (fun ls' h' => k p e s m args below meth c r0 r H locs ls' hC hZ hW hR hlo (gH.set (i := 17) (v := .ref x) hls.2 rfl h'))
theorem V_az17 (q : Nat) {a0 a1 a2 a3 a4 a5 a6 a7 a8 a9 a10 a11 a12 a13 a14 a15 a16 b : Option Value} {t : List (Option Value)}  (d : decode cc pc = .ok (.astore 17, 2)) (hn : 17 < nL) (hq : pc + 2 = q) (k : V l G y cc nL ret R mc ms Z post L M cells slots (a0 :: a1 :: a2 :: a3 :: a4 :: a5 :: a6 :: a7 :: a8 :: a9 :: a10 :: a11 :: a12 :: a13 :: a14 :: a15 :: a16 :: some (.null) :: t) q st) : V l G y cc nL ret R mc ms Z post L M cells slots (a0 :: a1 :: a2 :: a3 :: a4 :: a5 :: a6 :: a7 :: a8 :: a9 :: a10 :: a11 :: a12 :: a13 :: a14 :: a15 :: a16 :: b :: t) pc (.null :: st) := by
  subst hq
  intro p e s m args below meth c r0 r H locs ls hC hZ hW hR hlo hls
  exact lv_astoreN hC.1 hC.2.1 d hls.1 hn rfl (fun ls' h' => k p e s m args below meth c r0 r H locs ls' hC hZ hW hR hlo (gH.set (i := 17) (v := .null) hls.2 rfl h'))
theorem V_ii17 (q : Nat) {a0 a1 a2 a3 a4 a5 a6 a7 a8 a9 a10 a11 a12 a13 a14 a15 a16 : Option Value} {t : List (Option Value)} {x v : Int32} {n : Int} (d : decode cc pc = .ok (.iinc 17 n, 3)) (hn : 17 < nL) (hv : Int32.ofInt n = v) (hq : pc + 3 = q) (k : V l G y cc nL ret R mc ms Z post L M cells slots (a0 :: a1 :: a2 :: a3 :: a4 :: a5 :: a6 :: a7 :: a8 :: a9 :: a10 :: a11 :: a12 :: a13 :: a14 :: a15 :: a16 :: some (.int (x + v)) :: t) q st) : V l G y cc nL ret R mc ms Z post L M cells slots (a0 :: a1 :: a2 :: a3 :: a4 :: a5 :: a6 :: a7 :: a8 :: a9 :: a10 :: a11 :: a12 :: a13 :: a14 :: a15 :: a16 :: some (.int x) :: t) pc st := by
  subst hq
  subst hv
  intro p e s m args below meth c r0 r H locs ls hC hZ hW hR hlo hls
  obtain ⟨k9, hk9⟩ := List.getElem?_of_mem (gP_mem.mpr ⟨.int x, rfl, rfl⟩ : (17, Value.int x) ∈ gP r (a0 :: a1 :: a2 :: a3 :: a4 :: a5 :: a6 :: a7 :: a8 :: a9 :: a10 :: a11 :: a12 :: a13 :: a14 :: a15 :: a16 :: some (.int x) :: t))
  exact lv_iinc hC.1 hC.2.1 d hls.1 hk9 rfl hn rfl (fun ls' h' => k p e s m args below meth c r0 r H locs ls' hC hZ hW hR hlo (gH.set (i := 17) (v := .int (x + Int32.ofInt n)) hls.2 rfl h'))
theorem V_il18 (q : Nat) {a0 a1 a2 a3 a4 a5 a6 a7 a8 a9 a10 a11 a12 a13 a14 a15 a16 a17 : Option Value} {t : List (Option Value)} {x : Int32} (d : decode cc pc = .ok (.iload 18, 2)) (hq : pc + 2 = q) (k : V l G y cc nL ret R mc ms Z post L M cells slots (a0 :: a1 :: a2 :: a3 :: a4 :: a5 :: a6 :: a7 :: a8 :: a9 :: a10 :: a11 :: a12 :: a13 :: a14 :: a15 :: a16 :: a17 :: some (.int x) :: t) q (.int x :: st)) : V l G y cc nL ret R mc ms Z post L M cells slots (a0 :: a1 :: a2 :: a3 :: a4 :: a5 :: a6 :: a7 :: a8 :: a9 :: a10 :: a11 :: a12 :: a13 :: a14 :: a15 :: a16 :: a17 :: some (.int x) :: t) pc (st) := by
  subst hq
  intro p e s m args below meth c r0 r H locs ls hC hZ hW hR hlo hls
  exact lv_iload hC.1 hC.2.1 d (hls.at (i := 18) rfl) (k p e s m args below meth c r0 r H locs ls hC hZ hW hR hlo hls)
theorem V_al18 (q : Nat) {a0 a1 a2 a3 a4 a5 a6 a7 a8 a9 a10 a11 a12 a13 a14 a15 a16 a17 : Option Value} {t : List (Option Value)} {x : Nat} (d : decode cc pc = .ok (.aload 18, 2)) (hq : pc + 2 = q) (k : V l G y cc nL ret R mc ms Z post L M cells slots (a0 :: a1 :: a2 :: a3 :: a4 :: a5 :: a6 :: a7 :: a8 :: a9 :: a10 :: a11 :: a12 :: a13 :: a14 :: a15 :: a16 :: a17 :: some (.ref x) :: t) q (.ref x :: st)) : V l G y cc nL ret R mc ms Z post L M cells slots (a0 :: a1 :: a2 :: a3 :: a4 :: a5 :: a6 :: a7 :: a8 :: a9 :: a10 :: a11 :: a12 :: a13 :: a14 :: a15 :: a16 :: a17 :: some (.ref x) :: t) pc (st) := by
  subst hq
  intro p e s m args below meth c r0 r H locs ls hC hZ hW hR hlo hls
  exact lv_aload hC.1 hC.2.1 d (hls.at (i := 18) rfl) (k p e s m args below meth c r0 r H locs ls hC hZ hW hR hlo hls)
theorem V_an18 (q : Nat) {a0 a1 a2 a3 a4 a5 a6 a7 a8 a9 a10 a11 a12 a13 a14 a15 a16 a17 : Option Value} {t : List (Option Value)}  (d : decode cc pc = .ok (.aload 18, 2)) (hq : pc + 2 = q) (k : V l G y cc nL ret R mc ms Z post L M cells slots (a0 :: a1 :: a2 :: a3 :: a4 :: a5 :: a6 :: a7 :: a8 :: a9 :: a10 :: a11 :: a12 :: a13 :: a14 :: a15 :: a16 :: a17 :: some (.null) :: t) q (.null :: st)) : V l G y cc nL ret R mc ms Z post L M cells slots (a0 :: a1 :: a2 :: a3 :: a4 :: a5 :: a6 :: a7 :: a8 :: a9 :: a10 :: a11 :: a12 :: a13 :: a14 :: a15 :: a16 :: a17 :: some (.null) :: t) pc (st) := by
  subst hq
  intro p e s m args below meth c r0 r H locs ls hC hZ hW hR hlo hls
  exact lv_aloadN hC.1 hC.2.1 d (hls.at (i := 18) rfl) (k p e s m args below meth c r0 r H locs ls hC hZ hW hR hlo hls)
theorem V_is18 (q : Nat) {a0 a1 a2 a3 a4 a5 a6 a7 a8 a9 a10 a11 a12 a13 a14 a15 a16 a17 b : Option Value} {t : List (Option Value)} {x : Int32} (d : decode cc pc = .ok (.istore 18, 2)) (hn : 18 < nL) (hq : pc + 2 = q) (k : V l G y cc nL ret R mc ms Z post L M cells slots (a0 :: a1 :: a2 :: a3 :: a4 :: a5 :: a6 :: a7 :: a8 :: a9 :: a10 :: a11 :: a12 :: a13 :: a14 :: a15 :: a16 :: a17 :: some (.int x) :: t) q st) : V l G y cc nL ret R mc ms Z post L M cells slots (a0 :: a1 :: a2 :: a3 :: a4 :: a5 :: a6 :: a7 :: a8 :: a9 :: a10 :: a11 :: a12 :: a13 :: a14 :: a15 :: a16 :: a17 :: b :: t) pc (.int x :: st) := by
  subst hq
  intro p e s m args below meth c r0 r H locs ls hC hZ hW hR hlo hls
  exact lv_istore hC.1 hC.2.1 d hls.1 hn rfl (fun ls' h' => k p e s m args below meth c r0 r H locs ls' hC hZ hW hR hlo (gH.set (i := 18) (v := .int x) hls.2 rfl h'))
theorem V_as18 (q : Nat) {a0 a1 a2 a3 a4 a5 a6 a7 a8 a9 a10 a11 a12 a13 a14 a15 a16 a17 b : Option Value} {t : List (Option Value)} {x : Nat} (d : decode cc pc = .ok (.astore 18, 2)) (hn : 18 < nL) (hq : pc + 2 = q) (k : V l G y cc nL ret R mc ms Z post L M cells slots (a0 :: a1 :: a2 :: a3 :: a4 :: a5 :: a6 :: a7 :: a8 :: a9 :: a10 :: a11 :: a12 :: a13 :: a14 :: a15 :: a16 :: a17 :: some (.ref x) :: t) q st) : V l G y cc nL ret R mc ms Z post L M cells slots (a0 :: a1 :: a2 :: a3 :: a4 :: a5 :: a6 :: a7 :: a8 :: a9 :: a10 :: a11 :: a12 :: a13 :: a14 :: a15 :: a16 :: a17 :: b :: t) pc (.ref x :: st) := by
  subst hq
  intro p e s m args below meth c r0 r H locs ls hC hZ hW hR hlo hls
  exact lv_astore hC.1 hC.2.1 d hls.1 hn rfl (fun ls' h' => k p e s m args below meth c r0 r H locs ls' hC hZ hW hR hlo (gH.set (i := 18) (v := .ref x) hls.2 rfl h'))
theorem V_az18 (q : Nat) {a0 a1 a2 a3 a4 a5 a6 a7 a8 a9 a10 a11 a12 a13 a14 a15 a16 a17 b : Option Value} {t : List (Option Value)}  (d : decode cc pc = .ok (.astore 18, 2)) (hn : 18 < nL) (hq : pc + 2 = q) (k : V l G y cc nL ret R mc ms Z post L M cells slots (a0 :: a1 :: a2 :: a3 :: a4 :: a5 :: a6 :: a7 :: a8 :: a9 :: a10 :: a11 :: a12 :: a13 :: a14 :: a15 :: a16 :: a17 :: some (.null) :: t) q st) : V l G y cc nL ret R mc ms Z post L M cells slots (a0 :: a1 :: a2 :: a3 :: a4 :: a5 :: a6 :: a7 :: a8 :: a9 :: a10 :: a11 :: a12 :: a13 :: a14 :: a15 :: a16 :: a17 :: b :: t) pc (.null :: st) := by
  subst hq
  intro p e s m args below meth c r0 r H locs ls hC hZ hW hR hlo hls
  exact lv_astoreN hC.1 hC.2.1 d hls.1 hn rfl (fun ls' h' => k p e s m args below meth c r0 r H locs ls' hC hZ hW hR hlo (gH.set (i := 18) (v := .null) hls.2 rfl h'))
theorem V_ii18 (q : Nat) {a0 a1 a2 a3 a4 a5 a6 a7 a8 a9 a10 a11 a12 a13 a14 a15 a16 a17 : Option Value} {t : List (Option Value)} {x v : Int32} {n : Int} (d : decode cc pc = .ok (.iinc 18 n, 3)) (hn : 18 < nL) (hv : Int32.ofInt n = v) (hq : pc + 3 = q) (k : V l G y cc nL ret R mc ms Z post L M cells slots (a0 :: a1 :: a2 :: a3 :: a4 :: a5 :: a6 :: a7 :: a8 :: a9 :: a10 :: a11 :: a12 :: a13 :: a14 :: a15 :: a16 :: a17 :: some (.int (x + v)) :: t) q st) : V l G y cc nL ret R mc ms Z post L M cells slots (a0 :: a1 :: a2 :: a3 :: a4 :: a5 :: a6 :: a7 :: a8 :: a9 :: a10 :: a11 :: a12 :: a13 :: a14 :: a15 :: a16 :: a17 :: some (.int x) :: t) pc st := by
  subst hq
  subst hv
  intro p e s m args below meth c r0 r H locs ls hC hZ hW hR hlo hls
  obtain ⟨k9, hk9⟩ := List.getElem?_of_mem (gP_mem.mpr ⟨.int x, rfl, rfl⟩ : (18, Value.int x) ∈ gP r (a0 :: a1 :: a2 :: a3 :: a4 :: a5 :: a6 :: a7 :: a8 :: a9 :: a10 :: a11 :: a12 :: a13 :: a14 :: a15 :: a16 :: a17 :: some (.int x) :: t))
  exact lv_iinc hC.1 hC.2.1 d hls.1 hk9 rfl hn rfl (fun ls' h' => k p e s m args below meth c r0 r H locs ls' hC hZ hW hR hlo (gH.set (i := 18) (v := .int (x + Int32.ofInt n)) hls.2 rfl h'))
theorem V_il19 (q : Nat) {a0 a1 a2 a3 a4 a5 a6 a7 a8 a9 a10 a11 a12 a13 a14 a15 a16 a17 a18 : Option Value} {t : List (Option Value)} {x : Int32} (d : decode cc pc = .ok (.iload 19, 2)) (hq : pc + 2 = q) (k : V l G y cc nL ret R mc ms Z post L M cells slots (a0 :: a1 :: a2 :: a3 :: a4 :: a5 :: a6 :: a7 :: a8 :: a9 :: a10 :: a11 :: a12 :: a13 :: a14 :: a15 :: a16 :: a17 :: a18 :: some (.int x) :: t) q (.int x :: st)) : V l G y cc nL ret R mc ms Z post L M cells slots (a0 :: a1 :: a2 :: a3 :: a4 :: a5 :: a6 :: a7 :: a8 :: a9 :: a10 :: a11 :: a12 :: a13 :: a14 :: a15 :: a16 :: a17 :: a18 :: some (.int x) :: t) pc (st) := by
  subst hq
  intro p e s m args below meth c r0 r H locs ls hC hZ hW hR hlo hls
  exact lv_iload hC.1 hC.2.1 d (hls.at (i := 19) rfl) (k p e s m args below meth c r0 r H locs ls hC hZ hW hR hlo hls)
theorem V_al19 (q : Nat) {a0 a1 a2 a3 a4 a5 a6 a7 a8 a9 a10 a11 a12 a13 a14 a15 a16 a17 a18 : Option Value} {t : List (Option Value)} {x : Nat} (d : decode cc pc = .ok (.aload 19, 2)) (hq : pc + 2 = q) (k : V l G y cc nL ret R mc ms Z post L M cells slots (a0 :: a1 :: a2 :: a3 :: a4 :: a5 :: a6 :: a7 :: a8 :: a9 :: a10 :: a11 :: a12 :: a13 :: a14 :: a15 :: a16 :: a17 :: a18 :: some (.ref x) :: t) q (.ref x :: st)) : V l G y cc nL ret R mc ms Z post L M cells slots (a0 :: a1 :: a2 :: a3 :: a4 :: a5 :: a6 :: a7 :: a8 :: a9 :: a10 :: a11 :: a12 :: a13 :: a14 :: a15 :: a16 :: a17 :: a18 :: some (.ref x) :: t) pc (st) := by
  subst hq
  intro p e s m args below meth c r0 r H locs ls hC hZ hW hR hlo hls
  exact lv_aload hC.1 hC.2.1 d (hls.at (i := 19) rfl) (k p e s m args below meth c r0 r H locs ls hC hZ hW hR hlo hls)
theorem V_an19 (q : Nat) {a0 a1 a2 a3 a4 a5 a6 a7 a8 a9 a10 a11 a12 a13 a14 a15 a16 a17 a18 : Option Value} {t : List (Option Value)}  (d : decode cc pc = .ok (.aload 19, 2)) (hq : pc + 2 = q) (k : V l G y cc nL ret R mc ms Z post L M cells slots (a0 :: a1 :: a2 :: a3 :: a4 :: a5 :: a6 :: a7 :: a8 :: a9 :: a10 :: a11 :: a12 :: a13 :: a14 :: a15 :: a16 :: a17 :: a18 :: some (.null) :: t) q (.null :: st)) : V l G y cc nL ret R mc ms Z post L M cells slots (a0 :: a1 :: a2 :: a3 :: a4 :: a5 :: a6 :: a7 :: a8 :: a9 :: a10 :: a11 :: a12 :: a13 :: a14 :: a15 :: a16 :: a17 :: a18 :: some (.null) :: t) pc (st) := by
  subst hq
  intro p e s m args below meth c r0 r H locs ls hC hZ hW hR hlo hls
  exact lv_aloadN hC.1 hC.2.1 d (hls.at (i := 19) rfl) (k p e s m args below meth c r0 r H locs ls hC hZ hW hR hlo hls)
theorem V_is19 (q : Nat) {a0 a1 a2 a3 a4 a5 a6 a7 a8 a9 a10 a11 a12 a13 a14 a15 a16 a17 a18 b : Option Value} {t : List (Option Value)} {x : Int32} (d : decode cc pc = .ok (.istore 19, 2)) (hn : 19 < nL) (hq : pc + 2 = q) (k : V l G y cc nL ret R mc ms Z post L M cells slots (a0 :: a1 :: a2 :: a3 :: a4 :: a5 :: a6 :: a7 :: a8 :: a9 :: a10 :: a11 :: a12 :: a13 :: a14 :: a15 :: a16 :: a17 :: a18 :: some (.int x) :: t) q st) : V l G y cc nL ret R mc ms Z post L M cells slots (a0 :: a1 :: a2 :: a3 :: a4 :: a5 :: a6 :: a7 :: a8 :: a9 :: a10 :: a11 :: a12 :: a13 :: a14 :: a15 :: a16 :: a17 :: a18 :: b :: t) pc (.int x :: st) := by
  subst hq
  intro p e s m args below meth c r0 r H locs ls hC hZ hW hR hlo hls
  exact lv_istore hC.1 hC.2.1 d hls.1 hn rfl (fun ls' h' => k p e s m args below meth c r0 r H locs ls' hC hZ hW hR hlo (gH.set (i := 19) (v := .int x) hls.2 rfl h'))
theorem V_as19 (q : Nat) {a0 a1 a2 a3 a4 a5 a6 a7 a8 a9 a10 a11 a12 a13 a14 a15 a16 a17 a18 b : Option Value} {t : List (Option Value)} {x : Nat} (d : decode cc pc = .ok (.astore 19, 2)) (hn : 19 < nL) (hq : pc + 2 = q) (k : V l G y cc nL ret R mc ms Z post L M cells slots (a0 :: a1 :: a2 :: a3 :: a4 :: a5 :: a6 :: a7 :: a8 :: a9 :: a10 :: a11 :: a12 :: a13 :: a14 :: a15 :: a16 :: a17 :: a18 :: some (.ref x) :: t) q st) : V l G y cc nL ret R mc ms Z post L M cells slots (a0 :: a1 :: a2 :: a3 :: a4 :: a5 :: a6 :: a7 :: a8 :: a9 :: a10 :: a11 :: a12 :: a13 :: a14 :: a15 :: a16 :: a17 :: a18 :: b :: t) pc (.ref x :: st) := by
  subst hq
  intro p e s m args below meth c r0 r H locs ls hC hZ hW hR hlo hls
  exact lv_astore hC.1 hC.2.1 d hls.1 hn rfl (fun ls' h' => k p e s m args below meth c r0 r H locs ls' hC hZ hW hR hlo (gH.set (i := 19) (v := .ref x) hls.2 rfl h'))
theorem V_az19 (q : Nat) {a0 a1 a2 a3 a4 a5 a6 a7 a8 a9 a10 a11 a12 a13 a14 a15 a16 a17 a18 b : Option Value} {t : List (Option Value)}  (d : decode cc pc = .ok (.astore 19, 2)) (hn : 19 < nL) (hq : pc + 2 = q) (k : V l G y cc nL ret R mc ms Z post L M cells slots (a0 :: a1 :: a2 :: a3 :: a4 :: a5 :: a6 :: a7 :: a8 :: a9 :: a10 :: a11 :: a12 :: a13 :: a14 :: a15 :: a16 :: a17 :: a18 :: some (.null) :: t) q st) : V l G y cc nL ret R mc ms Z post L M cells slots (a0 :: a1 :: a2 :: a3 :: a4 :: a5 :: a6 :: a7 :: a8 :: a9 :: a10 :: a11 :: a12 :: a13 :: a14 :: a15 :: a16 :: a17 :: a18 :: b :: t) pc (.null :: st) := by
  subst hq
  intro p e s m args below meth c r0 r H locs ls hC hZ hW hR hlo hls
  exact lv_astoreN hC.1 hC.2.1 d hls.1 hn rfl (fun ls' h' => k p e s m args below meth c r0 r H locs ls' hC hZ hW hR hlo (gH.set (i := 19) (v := .null) hls.2 rfl h'))
theorem V_ii19 (q : Nat) {a0 a1 a2 a3 a4 a5 a6 a7 a8 a9 a10 a11 a12 a13 a14 a15 a16 a17 a18 : Option Value} {t : List (Option Value)} {x v : Int32} {n : Int} (d : decode cc pc = .ok (.iinc 19 n, 3)) (hn : 19 < nL) (hv : Int32.ofInt n = v) (hq : pc + 3 = q) (k : V l G y cc nL ret R mc ms Z post L M cells slots (a0 :: a1 :: a2 :: a3 :: a4 :: a5 :: a6 :: a7 :: a8 :: a9 :: a10 :: a11 :: a12 :: a13 :: a14 :: a15 :: a16 :: a17 :: a18 :: some (.int (x + v)) :: t) q st) : V l G y cc nL ret R mc ms Z post L M cells slots (a0 :: a1 :: a2 :: a3 :: a4 :: a5 :: a6 :: a7 :: a8 :: a9 :: a10 :: a11 :: a12 :: a13 :: a14 :: a15 :: a16 :: a17 :: a18 :: some (.int x) :: t) pc st := by
  subst hq
  subst hv
  intro p e s m args below meth c r0 r H locs ls hC hZ hW hR hlo hls
  obtain ⟨k9, hk9⟩ := List.getElem?_of_mem (gP_mem.mpr ⟨.int x, rfl, rfl⟩ : (19, Value.int x) ∈ gP r (a0 :: a1 :: a2 :: a3 :: a4 :: a5 :: a6 :: a7 :: a8 :: a9 :: a10 :: a11 :: a12 :: a13 :: a14 :: a15 :: a16 :: a17 :: a18 :: some (.int x) :: t))
  exact lv_iinc hC.1 hC.2.1 d hls.1 hk9 rfl hn rfl (fun ls' h' => k p e s m args below meth c r0 r H locs ls' hC hZ hW hR hlo (gH.set (i := 19) (v := .int (x + Int32.ofInt n)) hls.2 rfl h'))
theorem V_il20 (q : Nat) {a0 a1 a2 a3 a4 a5 a6 a7 a8 a9 a10 a11 a12 a13 a14 a15 a16 a17 a18 a19 : Option Value} {t : List (Option Value)} {x : Int32} (d : decode cc pc = .ok (.iload 20, 2)) (hq : pc + 2 = q) (k : V l G y cc nL ret R mc ms Z post L M cells slots (a0 :: a1 :: a2 :: a3 :: a4 :: a5 :: a6 :: a7 :: a8 :: a9 :: a10 :: a11 :: a12 :: a13 :: a14 :: a15 :: a16 :: a17 :: a18 :: a19 :: some (.int x) :: t) q (.int x :: st)) : V l G y cc nL ret R mc ms Z post L M cells slots (a0 :: a1 :: a2 :: a3 :: a4 :: a5 :: a6 :: a7 :: a8 :: a9 :: a10 :: a11 :: a12 :: a13 :: a14 :: a15 :: a16 :: a17 :: a18 :: a19 :: some (.int x) :: t) pc (st) := by
  subst hq
  intro p e s m args below meth c r0 r H locs ls hC hZ hW hR hlo hls
  exact lv_iload hC.1 hC.2.1 d (hls.at (i := 20) rfl) (k p e s m args below meth c r0 r H locs ls hC hZ hW hR hlo hls)
theorem V_al20 (q : Nat) {a0 a1 a2 a3 a4 a5 a6 a7 a8 a9 a10 a11 a12 a13 a14 a15 a16 a17 a18 a19 : Option Value} {t : List (Option Value)} {x : Nat} (d : decode cc pc = .ok (.aload 20, 2)) (hq : pc + 2 = q) (k : V l G y cc nL ret R mc ms Z post L M cells slots (a0 :: a1 :: a2 :: a3 :: a4 :: a5 :: a6 :: a7 :: a8 :: a9 :: a10 :: a11 :: a12 :: a13 :: a14 :: a15 :: a16 :: a17 :: a18 :: a19 :: some (.ref x) :: t) q (.ref x :: st)) : V l G y cc nL ret R mc ms Z post L M cells slots (a0 :: a1 :: a2 :: a3 :: a4 :: a5 :: a6 :: a7 :: a8 :: a9 :: a10 :: a11 :: a12 :: a13 :: a14 :: a15 :: a16 :: a17 :: a18 :: a19 :: some (.ref x) :: t) pc (st) := by
  subst hq
  intro p e s m args below meth c r0 r H locs ls hC hZ hW hR hlo hls
  exact lv_aload hC.1 hC.2.1 d (hls.at (i := 20) rfl) (k p e s m args below meth c r0 r H locs ls hC hZ hW hR hlo hls)
theorem V_an20 (q : Nat) {a0 a1 a2 a3 a4 a5 a6 a7 a8 a9 a10 a11 a12 a13 a14 a15 a16 a17 a18 a19 : Option Value} {t : List (Option Value)}  (d : decode cc pc = .ok (.aload 20, 2)) (hq : pc + 2 = q) (k : V l G y cc nL ret R mc ms Z post L M cells slots (a0 :: a1 :: a2 :: a3 :: a4 :: a5 :: a6 :: a7 :: a8 :: a9 :: a10 :: a11 :: a12 :: a13 :: a14 :: a15 :: a16 :: a17 :: a18 :: a19 :: some (.null) :: t) q (.null :: st)) : V l G y cc nL ret R mc ms Z post L M cells slots (a0 :: a1 :: a2 :: a3 :: a4 :: a5 :: a6 :: a7 :: a8 :: a9 :: a10 :: a11 :: a12 :: a13 :: a14 :: a15 :: a16 :: a17 :: a18 :: a19 :: some (.null) :: t) pc (st) := by
  subst hq
  intro p e s m args below meth c r0 r H locs ls hC hZ hW hR hlo hls
  exact lv_aloadN hC.1 hC.2.1 d (hls.at (i := 20) rfl) (k p e s m args below meth c r0 r H locs ls hC hZ hW hR hlo hls)
theorem V_is20 (q : Nat) {a0 a1 a2 a3 a4 a5 a6 a7 a8 a9 a10 a11 a12 a13 a14 a15 a16 a17 a18 a19 b : Option Value} {t : List (Option Value)} {x : Int32} (d : decode cc pc = .ok (.istore 20, 2)) (hn : 20 < nL) (hq : pc + 2 = q) (k : V l G y cc nL ret R mc ms Z post L M cells slots (a0 :: a1 :: a2 :: a3 :: a4 :: a5 :: a6 :: a7 :: a8 :: a9 :: a10 :: a11 :: a12 :: a13 :: a14 :: a15 :: a16 :: a17 :: a18 :: a19 :: some (.int x) :: t) q st) : V l G y cc nL ret R mc ms Z post L M cells slots (a0 :: a1 :: a2 :: a3 :: a4 :: a5 :: a6 :: a7 :: a8 :: a9 :: a10 :: a11 :: a12 :: a13 :: a14 :: a15 :: a16 :: a17 :: a18 :: a19 :: b :: t) pc (.int x :: st) := by
  subst hq
  intro p e s m args below meth c r0 r H locs ls hC hZ hW hR hlo hls
  exact lv_istore hC.1 hC.2.1 d hls.1 hn rfl (fun ls' h' => k p e s m args below meth c r0 r H locs ls' hC hZ hW hR hlo (gH.set (i := 20) (v := .int x) hls.2 rfl h'))
theorem V_as20 (q : Nat) {a0 a1 a2 a3 a4 a5 a6 a7 a8 a9 a10 a11 a12 a13 a14 a15 a16 a17 a18 a19 b : Option Value} {t : List (Option Value)} {x : Nat} (d : decode cc pc = .ok (.astore 20, 2)) (hn : 20 < nL) (hq : pc + 2 = q) (k : V l G y cc nL ret R mc ms Z post L M cells slots (a0 :: a1 :: a2 :: a3 :: a4 :: a5 :: a6 :: a7 :: a8 :: a9 :: a10 :: a11 :: a12 :: a13 :: a14 :: a15 :: a16 :: a17 :: a18 :: a19 :: some (.ref x) :: t) q st) : V l G y cc nL ret R mc ms Z post L M cells slots (a0 :: a1 :: a2 :: a3 :: a4 :: a5 :: a6 :: a7 :: a8 :: a9 :: a10 :: a11 :: a12 :: a13 :: a14 :: a15 :: a16 :: a17 :: a18 :: a19 :: b :: t) pc (.ref x :: st) := by
  subst hq
  intro p e s m args below meth c r0 r H locs ls hC hZ hW hR hlo hls
  exact lv_astore hC.1 hC.2.1 d hls.1 hn rfl (fun ls' h' => k p e s m args below meth c r0 r H locs ls' hC hZ hW hR hlo (gH.set (i := 20) (v := .ref x) hls.2 rfl h'))
theorem V_az20 (q : Nat) {a0 a1 a2 a3 a4 a5 a6 a7 a8 a9 a10 a11 a12 a13 a14 a15 a16 a17 a18 a19 b : Option Value} {t : List (Option Value)}  (d : decode cc pc = .ok (.astore 20, 2)) (hn : 20 < nL) (hq : pc + 2 = q) (k : V l G y cc nL ret R mc ms Z post L M cells slots (a0 :: a1 :: a2 :: a3 :: a4 :: a5 :: a6 :: a7 :: a8 :: a9 :: a10 :: a11 :: a12 :: a13 :: a14 :: a15 :: a16 :: a17 :: a18 :: a19 :: some (.null) :: t) q st) : V l G y cc nL ret R mc ms Z post L M cells slots (a0 :: a1 :: a2 :: a3 :: a4 :: a5 :: a6 :: a7 :: a8 :: a9 :: a10 :: a11 :: a12 :: a13 :: a14 :: a15 :: a16 :: a17 :: a18 :: a19 :: b :: t) pc (.null :: st) := by
  subst hq
  intro p e s m args below meth c r0 r H locs ls hC hZ hW hR hlo hls
  exact lv_astoreN hC.1 hC.2.1 d hls.1 hn rfl (fun ls' h' => k p e s m args below meth c r0 r H locs ls' hC hZ hW hR hlo (gH.set (i := 20) (v := .null) hls.2 rfl h'))
theorem V_ii20 (q : Nat) {a0 a1 a2 a3 a4 a5 a6 a7 a8 a9 a10 a11 a12 a13 a14 a15 a16 a17 a18 a19 : Option Value} {t : List (Option Value)} {x v : Int32} {n : Int} (d : decode cc pc = .ok (.iinc 20 n, 3)) (hn : 20 < nL) (hv : Int32.ofInt n = v) (hq : pc + 3 = q) (k : V l G y cc nL ret R mc ms Z post L M cells slots (a0 :: a1 :: a2 :: a3 :: a4 :: a5 :: a6 :: a7 :: a8 :: a9 :: a10 :: a11 :: a12 :: a13 :: a14 :: a15 :: a16 :: a17 :: a18 :: a19 :: some (.int (x + v)) :: t) q st) : V l G y cc nL ret R mc ms Z post L M cells slots (a0 :: a1 :: a2 :: a3 :: a4 :: a5 :: a6 :: a7 :: a8 :: a9 :: a10 :: a11 :: a12 :: a13 :: a14 :: a15 :: a16 :: a17 :: a18 :: a19 :: some (.int x) :: t) pc st := by
  subst hq
  subst hv
  intro p e s m args below meth c r0 r H locs ls hC hZ hW hR hlo hls
  obtain ⟨k9, hk9⟩ := List.getElem?_of_mem (gP_mem.mpr ⟨.int x, rfl, rfl⟩ : (20, Value.int x) ∈ gP r (a0 :: a1 :: a2 :: a3 :: a4 :: a5 :: a6 :: a7 :: a8 :: a9 :: a10 :: a11 :: a12 :: a13 :: a14 :: a15 :: a16 :: a17 :: a18 :: a19 :: some (.int x) :: t))
  exact lv_iinc hC.1 hC.2.1 d hls.1 hk9 rfl hn rfl (fun ls' h' => k p e s m args below meth c r0 r H locs ls' hC hZ hW hR hlo (gH.set (i := 20) (v := .int (x + Int32.ofInt n)) hls.2 rfl h'))
theorem V_il21 (q : Nat) {a0 a1 a2 a3 a4 a5 a6 a7 a8 a9 a10 a11 a12 a13 a14 a15 a16 a17 a18 a19 a20 : Option Value} {t : List (Option Value)} {x : Int32} (d : decode cc pc = .ok (.iload 21, 2)) (hq : pc + 2 = q) (k : V l G y cc nL ret R mc ms Z post L M cells slots (a0 :: a1 :: a2 :: a3 :: a4 :: a5 :: a6 :: a7 :: a8 :: a9 :: a10 :: a11 :: a12 :: a13 :: a14 :: a15 :: a16 :: a17 :: a18 :: a19 :: a20 :: some (.int x) :: t) q (.int x :: st)) : V l G y cc nL ret R mc ms Z post L M cells slots (a0 :: a1 :: a2 :: a3 :: a4 :: a5 :: a6 :: a7 :: a8 :: a9 :: a10 :: a11 :: a12 :: a13 :: a14 :: a15 :: a16 :: a17 :: a18 :: a19 :: a20 :: some (.int x) :: t) pc (st) := by
  subst hq
  intro p e s m args below meth c r0 r H locs ls hC hZ hW hR hlo hls
  exact lv_iload hC.1 hC.2.1 d (hls.at (i := 21) rfl) (k p e s m args below meth c r0 r H locs ls hC hZ hW hR hlo hls)
theorem V_al21 (q : Nat) {a0 a1 a2 a3 a4 a5 a6 a7 a8 a9 a10 a11 a12 a13 a14 a15 a16 a17 a18 a19 a20 : Option Value} {t : List (Option Value)} {x : Nat} (d : decode cc pc = .ok (.aload 21, 2)) (hq : pc + 2 = q) (k : V l G y cc nL ret R mc ms Z post L M cells slots (a0 :: a1 :: a2 :: a3 :: a4 :: a5 :: a6 :: a7 :: a8 :: a9 :: a10 :: a11 :: a12 :: a13 :: a14 :: a15 :: a16 :: a17 :: a18 :: a19 :: a20 :: some (.ref x) :: t) q (.ref x :: st)) : V l G y cc nL ret R mc ms Z post L M cells slots (a0 :: a1 :: a2 :: a3 :: a4 :: a5 :: a6 :: a7 :: a8 :: a9 :: a10 :: a11 :: a12 :: a13 :: a14 :: a15 :: a16 :: a17 :: a18 :: a19 :: a20 :: some (.ref x) :: t) pc (st) := by
  subst hq
  intro p e s m args below meth c r0 r H locs ls hC hZ hW hR hlo hls
  exact lv_aload hC.1 hC.2.1 d (hls.at (i := 21) rfl) (k p e s m args below meth c r0 r H locs ls hC hZ hW hR hlo hls)
theorem V_an21 (q : Nat) {a0 a1 a2 a3 a4 a5 a6 a7 a8 a9 a10 a11 a12 a13 a14 a15 a16 a17 a18 a19 a20 : Option Value} {t : List (Option Value)}  (d : decode cc pc = .ok (.aload 21, 2)) (hq : pc + 2 = q) (k : V l G y cc nL ret R mc ms Z post L M cells slots (a0 :: a1 :: a2 :: a3 :: a4 :: a5 :: a6 :: a7 :: a8 :: a9 :: a10 :: a11 :: a12 :: a13 :: a14 :: a15 :: a16 :: a17 :: a18 :: a19 :: a20 :: some (.null) :: t) q (.null :: st)) : V l G y cc nL ret R mc ms Z post L M cells slots (a0 :: a1 :: a2 :: a3 :: a4 :: a5 :: a6 :: a7 :: a8 :: a9 :: a10 :: a11 :: a12 :: a13 :: a14 :: a15 :: a16 :: a17 :: a18 :: a19 :: a20 :: some (.null) :: t) pc (st) := by
  subst hq
  intro p e s m args below meth c r0 r H locs ls hC hZ hW hR hlo hls
  exact lv_aloadN hC.1 hC.2.1 d (hls.at (i := 21) rfl) (k p e s m args below meth c r0 r H locs ls hC hZ hW hR hlo hls)
theorem V_is21 (q : Nat) {a0 a1 a2 a3 a4 a5 a6 a7 a8 a9 a10 a11 a12 a13 a14 a15 a16 a17 a18 a19 a20 b : Option Value} {t : List (Option Value)} {x : Int32} (d : decode cc pc = .ok (.istore 21, 2)) (hn : 21 < nL) (hq : pc + 2 = q) (k : V l G y cc nL ret R mc ms Z post L M cells slots (a0 :: a1 :: a2 :: a3 :: a4 :: a5 :: a6 :: a7 :: a8 :: a9 :: a10 :: a11 :: a12 :: a13 :: a14 :: a15 :: a16 :: a17 :: a18 :: a19 :: a20 :: some (.int x) :: t) q st) : V l G y cc nL ret R mc ms Z post L M cells slots (a0 :: a1 :: a2 :: a3 :: a4 :: a5 :: a6 :: a7 :: a8 :: a9 :: a10 :: a11 :: a12 :: a13 :: a14 :: a15 :: a16 :: a17 :: a18 :: a19 :: a20 :: b :: t) pc (.int x :: st) := by
  subst hq
  intro p e s m args below meth c r0 r H locs ls hC hZ hW hR hlo hls
  exact lv_istore hC.1 hC.2.1 d hls.1 hn rfl (fun ls' h' => k p e s m args below meth c r0 r H locs ls' hC hZ hW hR hlo (gH.set (i := 21) (v := .int x) hls.2 rfl h'))
theorem V_as21 (q : Nat) {a0 a1 a2 a3 a4 a5 a6 a7 a8 a9 a10 a11 a12 a13 a14 a15 a16 a17 a18 a19 a20 b : Option Value} {t : List (Option Value)} {x : Nat} (d : decode cc pc = .ok (.astore 21, 2)) (hn : 21 < nL) (hq : pc + 2 = q) (k : V l G y cc nL ret R mc ms Z post L M cells slots (a0 :: a1 :: a2 :: a3 :: a4 :: a5 :: a6 :: a7 :: a8 :: a9 :: a10 :: a11 :: a12 :: a13 :: a14 :: a15 :: a16 :: a17 :: a18 :: a19 :: a20 :: some (.ref x) :: t) q st) : V l G y cc nL ret R mc ms Z post L M cells slots (a0 :: a1 :: a2 :: a3 :: a4 :: a5 :: a6 :: a7 :: a8 :: a9 :: a10 :: a11 :: a12 :: a13 :: a14 :: a15 :: a16 :: a17 :: a18 :: a19 :: a20 :: b :: t) pc (.ref x :: st) := by
  subst hq
  intro p e s m args below meth c r0 r H locs ls hC hZ hW hR hlo hls
  exact lv_astore hC.1 hC.2.1 d hls.1 hn rfl (fun ls' h' => k p e s m args below meth c r0 r H locs ls' hC hZ hW hR hlo (gH.set (i := 21) (v := .ref x) hls.2 rfl h'))
theorem V_az21 (q : Nat) {a0 a1 a2 a3 a4 a5 a6 a7 a8 a9 a10 a11 a12 a13 a14 a15 a16 a17 a18 a19 a20 b : Option Value} {t : List (Option Value)}  (d : decode cc pc = .ok (.astore 21, 2)) (hn : 21 < nL) (hq : pc + 2 = q) (k : V l G y cc nL ret R mc ms Z post L M cells slots (a0 :: a1 :: a2 :: a3 :: a4 :: a5 :: a6 :: a7 :: a8 :: a9 :: a10 :: a11 :: a12 :: a13 :: a14 :: a15 :: a16 :: a17 :: a18 :: a19 :: a20 :: some (.null) :: t) q st) : V l G y cc nL ret R mc ms Z post L M cells slots (a0 :: a1 :: a2 :: a3 :: a4 :: a5 :: a6 :: a7 :: a8 :: a9 :: a10 :: a11 :: a12 :: a13 :: a14 :: a15 :: a16 :: a17 :: a18 :: a19 :: a20 :: b :: t) pc (.null :: st) := by
  subst hq
  intro p e s m args below meth c r0 r H locs ls hC hZ hW hR hlo hls
  exact lv_astoreN hC.1 hC.2.1 d hls.1 hn rfl (fun ls' h' => k p e s m args below meth c r0 r H locs ls' hC hZ hW hR hlo (gH.set (i := 21) (v := .null) hls.2 rfl h'))
theorem V_ii21 (q : Nat) {a0 a1 a2 a3 a4 a5 a6 a7 a8 a9 a10 a11 a12 a13 a14 a15 a16 a17 a18 a19 a20 : Option Value} {t : List (Option Value)} {x v : Int32} {n : Int} (d : decode cc pc = .ok (.iinc 21 n, 3)) (hn : 21 < nL) (hv : Int32.ofInt n = v) (hq : pc + 3 = q) (k : V l G y cc nL ret R mc ms Z post L M cells slots (a0 :: a1 :: a2 :: a3 :: a4 :: a5 :: a6 :: a7 :: a8 :: a9 :: a10 :: a11 :: a12 :: a13 :: a14 :: a15 :: a16 :: a17 :: a18 :: a19 :: a20 :: some (.int (x + v)) :: t) q st) : V l G y cc nL ret R mc ms Z post L M cells slots (a0 :: a1 :: a2 :: a3 :: a4 :: a5 :: a6 :: a7 :: a8 :: a9 :: a10 :: a11 :: a12 :: a13 :: a14 :: a15 :: a16 :: a17 :: a18 :: a19 :: a20 :: some (.int x) :: t) pc st := by
  subst hq
  subst hv
  intro p e s m args below meth c r0 r H locs ls hC hZ hW hR hlo hls
  obtain ⟨k9, hk9⟩ := List.getElem?_of_mem (gP_mem.mpr ⟨.int x, rfl, rfl⟩ : (21, Value.int x) ∈ gP r (a0 :: a1 :: a2 :: a3 :: a4 :: a5 :: a6 :: a7 :: a8 :: a9 :: a10 :: a11 :: a12 :: a13 :: a14 :: a15 :: a16 :: a17 :: a18 :: a19 :: a20 :: some (.int x) :: t))
  exact lv_iinc hC.1 hC.2.1 d hls.1 hk9 rfl hn rfl (fun ls' h' => k p e s m args below meth c r0 r H locs ls' hC hZ hW hR hlo (gH.set (i := 21) (v := .int (x + Int32.ofInt n)) hls.2 rfl h'))
theorem V_il22 (q : Nat) {a0 a1 a2 a3 a4 a5 a6 a7 a8 a9 a10 a11 a12 a13 a14 a15 a16 a17 a18 a19 a20 a21 : Option Value} {t : List (Option Value)} {x : Int32} (d : decode cc pc = .ok (.iload 22, 2)) (hq : pc + 2 = q) (k : V l G y cc nL ret R mc ms Z post L M cells slots (a0 :: a1 :: a2 :: a3 :: a4 :: a5 :: a6 :: a7 :: a8 :: a9 :: a10 :: a11 :: a12 :: a13 :: a14 :: a15 :: a16 :: a17 :: a18 :: a19 :: a20 :: a21 :: some (.int x) :: t) q (.int x :: st)) : V l G y cc nL ret R mc ms Z post L M cells slots (a0 :: a1 :: a2 :: a3 :: a4 :: a5 :: a6 :: a7 :: a8 :: a9 :: a10 :: a11 :: a12 :: a13 :: a14 :: a15 :: a16 :: a17 :: a18 :: a19 :: a20 :: a21 :: some (.int x) :: t) pc (st) := by
  subst hq
  intro p e s m args below meth c r0 r H locs ls hC hZ hW hR hlo hls
  exact lv_iload hC.1 hC.2.1 d (hls.at (i := 22) rfl) (k p e s m args below meth c r0 r H locs ls hC hZ hW hR hlo hls)
theorem V_al22 (q : Nat) {a0 a1 a2 a3 a4 a5 a6 a7 a8 a9 a10 a11 a12 a13 a14 a15 a16 a17 a18 a19 a20 a21 : Option Value} {t : List (Option Value)} {x : Nat} (d : decode cc pc = .ok (.aload 22, 2)) (hq : pc + 2 = q) (k : V l G y cc nL ret R mc ms Z post L M cells slots (a0 :: a1 :: a2 :: a3 :: a4 :: a5 :: a6 :: a7 :: a8 :: a9 :: a10 :: a11 :: a12 :: a13 :: a14 :: a15 :: a16 :: a17 :: a18 :: a19 :: a20 :: a21 :: some (.ref x) :: t) q (.ref x :: st)) : V l G y cc nL ret R mc ms Z post L M cells slots (a0 :: a1 :: a2 :: a3 :: a4 :: a5 :: a6 :: a7 :: a8 :: a9 :: a10 :: a11 :: a12 :: a13 :: a14 :: a15 :: a16 :: a17 :: a18 :: a19 :: a20 :: a21 :: some (.ref x) :: t) pc (st) := by
  subst hq
  intro p e s m args below meth c r0 r H locs ls hC hZ hW hR hlo hls
  exact lv_aload hC.1 hC.2.1 d (hls.at (i := 22) rfl) (k p e s m args below meth c r0 r H locs ls hC hZ hW hR hlo hls)
theorem V_an22 (q : Nat) {a0 a1 a2 a3 a4 a5 a6 a7 a8 a9 a10 a11 a12 a13 a14 a15 a16 a17 a18 a19 a20 a21 : Option Value} {t : List (Option Value)}  (d : decode cc pc = .ok (.aload 22, 2)) (hq : pc + 2 = q) (k : V l G y cc nL ret R mc ms Z post L M cells slots (a0 :: a1 :: a2 :: a3 :: a4 :: a5 :: a6 :: a7 :: a8 :: a9 :: a10 :: a11 :: a12 :: a13 :: a14 :: a15 :: a16 :: a17 :: a18 :: a19 :: a20 :: a21 :: some (.null) :: t) q (.null :: st)) : V l G y cc nL ret R mc ms Z post L M cells slots (a0 :: a1 :: a2 :: a3 :: a4 :: a5 :: a6 :: a7 :: a8 :: a9 :: a10 :: a11 :: a12 :: a13 :: a14 :: a15 :: a16 :: a17 :: a18 :: a19 :: a20 :: a21 :: some (.null) :: t) pc (st) := by
  subst hq
  intro p e s m args below meth c r0 r H locs ls hC hZ hW hR hlo hls
  exact lv_aloadN hC.1 hC.2.1 d (hls.at (i := 22) rfl) (k p e s m args below meth c r0 r H locs ls hC hZ hW hR hlo hls)
theorem V_is22 (q : Nat) {a0 a1 a2 a3 a4 a5 a6 a7 a8 a9 a10 a11 a12 a13 a14 a15 a16 a17 a18 a19 a20 a21 b : Option Value} {t : List (Option Value)} {x : Int32} (d : decode cc pc = .ok (.istore 22, 2)) (hn : 22 < nL) (hq : pc + 2 = q) (k : V l G y cc nL ret R mc ms Z post L M cells slots (a0 :: a1 :: a2 :: a3 :: a4 :: a5 :: a6 :: a7 :: a8 :: a9 :: a10 :: a11 :: a12 :: a13 :: a14 :: a15 :: a16 :: a17 :: a18 :: a19 :: a20 :: a21 :: some (.int x) :: t) q st) : V l G y cc nL ret R mc ms Z post L M cells slots (a0 :: a1 :: a2 :: a3 :: a4 :: a5 :: a6 :: a7 :: a8 :: a9 :: a10 :: a11 :: a12 :: a13 :: a14 :: a15 :: a16 :: a17 :: a18 :: a19 :: a20 :: a21 :: b :: t) pc (.int x :: st) := by
  subst hq
  intro p e s m args below meth c r0 r H locs ls hC hZ hW hR hlo hls
  exact lv_istore hC.1 hC.2.1 d hls.1 hn rfl (fun ls' h' => k p e s m args below meth c r0 r H locs ls' hC hZ hW hR hlo (gH.set (i := 22) (v := .int x) hls.2 rfl h'))
theorem V_as22 (q : Nat) {a0 a1 a2 a3 a4 a5 a6 a7 a8 a9 a10 a11 a12 a13 a14 a15 a16 a17 a18 a19 a20 a21 b : Option Value} {t : List (Option Value)} {x : Nat} (d : decode cc pc = .ok (.astore 22, 2)) (hn : 22 < nL) (hq : pc + 2 = q) (k : V l G y cc nL ret R mc ms Z post L M cells slots (a0 :: a1 :: a2 :: a3 :: a4 :: a5 :: a6 :: a7 :: a8 :: a9 :: a10 :: a11 :: a12 :: a13 :: a14 :: a15 :: a16 :: a17 :: a18 :: a19 :: a20 :: a21 :: some (.ref x) :: t) q st) : V l G y cc nL ret R mc ms Z post L M cells slots (a0 :: a1 :: a2 :: a3 :: a4 :: a5 :: a6 :: a7 :: a8 :: a9 :: a10 :: a11 :: a12 :: a13 :: a14 :: a15 :: a16 :: a17 :: a18 :: a19 :: a20 :: a21 :: b :: t) pc (.ref x :: st) := by
  subst hq
  intro p e s m args below meth c r0 r H locs ls hC hZ hW hR hlo hls
  exact lv_astore hC.1 hC.2.1 d hls.1 hn rfl (fun ls' h' => k p e s m args below meth c r0 r H locs ls' hC hZ hW hR hlo (gH.set (i := 22) (v := .ref x) hls.2 rfl h'))
theorem V_az22 (q : Nat) {a0 a1 a2 a3 a4 a5 a6 a7 a8 a9 a10 a11 a12 a13 a14 a15 a16 a17 a18 a19 a20 a21 b : Option Value} {t : List (Option Value)}  (d : decode cc pc = .ok (.astore 22, 2)) (hn : 22 < nL) (hq : pc + 2 = q) (k : V l G y cc nL ret R mc ms Z post L M cells slots (a0 :: a1 :: a2 :: a3 :: a4 :: a5 :: a6 :: a7 :: a8 :: a9 :: a10 :: a11 :: a12 :: a13 :: a14 :: a15 :: a16 :: a17 :: a18 :: a19 :: a20 :: a21 :: some (.null) :: t) q st) : V l G y cc nL ret R mc ms Z post L M cells slots (a0 :: a1 :: a2 :: a3 :: a4 :: a5 :: a6 :: a7 :: a8 :: a9 :: a10 :: a11 :: a12 :: a13 :: a14 :: a15 :: a16 :: a17 :: a18 :: a19 :: a20 :: a21 :: b :: t) pc (.null :: st) := by
  subst hq
  intro p e s m args below meth c r0 r H locs ls hC hZ hW hR hlo hls
  exact lv_astoreN hC.1 hC.2.1 d hls.1 hn rfl (fun ls' h' => k p e s m args below meth c r0 r H locs ls' hC hZ hW hR hlo (gH.set (i := 22) (v := .null) hls.2 rfl h'))
theorem V_ii22 (q : Nat) {a0 a1 a2 a3 a4 a5 a6 a7 a8 a9 a10 a11 a12 a13 a14 a15 a16 a17 a18 a19 a20 a21 : Option Value} {t : List (Option Value)} {x v : Int32} {n : Int} (d : decode cc pc = .ok (.iinc 22 n, 3)) (hn : 22 < nL) (hv : Int32.ofInt n = v) (hq : pc + 3 = q) (k : V l G y cc nL ret R mc ms Z post L M cells slots (a0 :: a1 :: a2 :: a3 :: a4 :: a5 :: a6 :: a7 :: a8 :: a9 :: a10 :: a11 :: a12 :: a13 :: a14 :: a15 :: a16 :: a17 :: a18 :: a19 :: a20 :: a21 :: some (.int (x + v)) :: t) q st) : V l G y cc nL ret R mc ms Z post L M cells slots (a0 :: a1 :: a2 :: a3 :: a4 :: a5 :: a6 :: a7 :: a8 :: a9 :: a10 :: a11 :: a12 :: a13 :: a14 :: a15 :: a16 :: a17 :: a18 :: a19 :: a20 :: a21 :: some (.int x) :: t) pc st := by
  subst hq
  subst hv
  intro p e s m args below meth c r0 r H locs ls hC hZ hW hR hlo hls
  obtain ⟨k9, hk9⟩ := List.getElem?_of_mem (gP_mem.mpr ⟨.int x, rfl, rfl⟩ : (22, Value.int x) ∈ gP r (a0 :: a1 :: a2 :: a3 :: a4 :: a5 :: a6 :: a7 :: a8 :: a9 :: a10 :: a11 :: a12 :: a13 :: a14 :: a15 :: a16 :: a17 :: a18 :: a19 :: a20 :: a21 :: some (.int x) :: t))
  exact lv_iinc hC.1 hC.2.1 d hls.1 hk9 rfl hn rfl (fun ls' h' => k p e s m args below meth c r0 r H locs ls' hC hZ hW hR hlo (gH.set (i := 22) (v := .int (x + Int32.ofInt n)) hls.2 rfl h'))
theorem V_il23 (q : Nat) {a0 a1 a2 a3 a4 a5 a6 a7 a8 a9 a10 a11 a12 a13 a14 a15 a16 a17 a18 a19 a20 a21 a22 : Option Value} {t : List (Option Value)} {x : Int32} (d : decode cc pc = .ok (.iload 23, 2)) (hq : pc + 2 = q) (k : V l G y cc nL ret R mc ms Z post L M cells slots (a0 :: a1 :: a2 :: a3 :: a4 :: a5 :: a6 :: a7 :: a8 :: a9 :: a10 :: a11 :: a12 :: a13 :: a14 :: a15 :: a16 :: a17 :: a18 :: a19 :: a20 :: a21 :: a22 :: some (.int x) :: t) q (.int x :: st)) : V l G y cc nL ret R mc ms Z post L M cells slots (a0 :: a1 :: a2 :: a3 :: a4 :: a5 :: a6 :: a7 :: a8 :: a9 :: a10 :: a11 :: a12 :: a13 :: a14 :: a15 :: a16 :: a17 :: a18 :: a19 :: a20 :: a21 :: a22 :: some (.int x) :: t) pc (st) := by
  subst hq
  intro p e s m args below meth c r0 r H locs ls hC hZ hW hR hlo hls
  exact lv_iload hC.1 hC.2.1 d (hls.at (i := 23) rfl) (k p e s m args below meth c r0 r H locs ls hC hZ hW hR hlo hls)
theorem V_al23 (q : Nat) {a0 a1 a2 a3 a4 a5 a6 a7 a8 a9 a10 a11 a12 a13 a14 a15 a16 a17 a18 a19 a20 a21 a22 : Option Value} {t : List (Option Value)} {x : Nat} (d : decode cc pc = .ok (.aload 23, 2)) (hq : pc + 2 = q) (k : V l G y cc nL ret R mc ms Z post L M cells slots (a0 :: a1 :: a2 :: a3 :: a4 :: a5 :: a6 :: a7 :: a8 :: a9 :: a10 :: a11 :: a12 :: a13 :: a14 :: a15 :: a16 :: a17 :: a18 :: a19 :: a20 :: a21 :: a22 :: some (.ref x) :: t) q (.ref x :: st)) : V l G y cc nL ret R mc ms Z post L M cells slots (a0 :: a1 :: a2 :: a3 :: a4 :: a5 :: a6 :: a7 :: a8 :: a9 :: a10 :: a11 :: a12 :: a13 :: a14 :: a15 :: a16 :: a17 :: a18 :: a19 :: a20 :: a21 :: a22 :: some (.ref x) :: t) pc (st) := by
  subst hq
  intro p e s m args below meth c r0 r H locs ls hC hZ hW hR hlo hls
  exact lv_aload hC.1 hC.2.1 d (hls.at (i := 23) rfl) (k p e s m args below meth c r0 r H locs ls hC hZ hW hR hlo hls)
theorem V_an23 (q : Nat) {a0 a1 a2 a3 a4 a5 a6 a7 a8 a9 a10 a11 a12 a13 a14 a15 a16 a17 a18 a19 a20 a21 a22 : Option Value} {t : List (Option Value)}  (d : decode cc pc = .ok (.aload 23, 2)) (hq : pc + 2 = q) (k : V l G y cc nL ret R mc ms Z post L M cells slots (a0 :: a1 :: a2 :: a3 :: a4 :: a5 :: a6 :: a7 :: a8 :: a9 :: a10 :: a11 :: a12 :: a13 :: a14 :: a15 :: a16 :: a17 :: a18 :: a19 :: a20 :: a21 :: a22 :: some (.null) :: t) q (.null :: st)) : V l G y cc nL ret R mc ms Z post L M cells slots (a0 :: a1 :: a2 :: a3 :: a4 :: a5 :: a6 :: a7 :: a8 :: a9 :: a10 :: a11 :: a12 :: a13 :: a14 :: a15 :: a16 :: a17 :: a18 :: a19 :: a20 :: a21 :: a22 :: some (.null) :: t) pc (st) := by
  subst hq
  intro p e s m args below meth c r0 r H locs ls hC hZ hW hR hlo hls
  exact lv_aloadN hC.1 hC.2.1 d (hls.at (i := 23) rfl) (k p e s m args below meth c r0 r H locs ls hC hZ hW hR hlo hls)
theorem V_is23 (q : Nat) {a0 a1 a2 a3 a4 a5 a6 a7 a8 a9 a10 a11 a12 a13 a14 a15 a16 a17 a18 a19 a20 a21 a22 b : Option Value} {t : List (Option Value)} {x : Int32} (d : decode cc pc = .ok (.istore 23, 2)) (hn : 23 < nL) (hq : pc + 2 = q) (k : V l G y cc nL ret R mc ms Z post L M cells slots (a0 :: a1 :: a2 :: a3 :: a4 :: a5 :: a6 :: a7 :: a8 :: a9 :: a10 :: a11 :: a12 :: a13 :: a14 :: a15 :: a16 :: a17 :: a18 :: a19 :: a20 :: a21 :: a22 :: some (.int x) :: t) q st) : V l G y cc nL ret R mc ms Z post L M cells slots (a0 :: a1 :: a2 :: a3 :: a4 :: a5 :: a6 :: a7 :: a8 :: a9 :: a10 :: a11 :: a12 :: a13 :: a14 :: a15 :: a16 :: a17 :: a18 :: a19 :: a20 :: a21 :: a22 :: b :: t) pc (.int x :: st) := by
  subst hq
  intro p e s m args below meth c r0 r H locs ls hC hZ hW hR hlo hls
  exact lv_istore hC.1 hC.2.1 d hls.1 hn rfl (fun ls' h' => k p e s m args below meth c r0 r H locs ls' hC hZ hW hR hlo (gH.set (i := 23) (v := .int x) hls.2 rfl h'))
theorem V_as23 (q : Nat) {a0 a1 a2 a3 a4 a5 a6 a7 a8 a9 a10 a11 a12 a13 a14 a15 a16 a17 a18 a19 a20 a21 a22 b : Option Value} {t : List (Option Value)} {x : Nat} (d : decode cc pc = .ok (.astore 23, 2)) (hn : 23 < nL) (hq : pc + 2 = q) (k : V l G y cc nL ret R mc ms Z post L M cells slots (a0 :: a1 :: a2 :: a3 :: a4 :: a5 :: a6 :: a7 :: a8 :: a9 :: a10 :: a11 :: a12 :: a13 :: a14 :: a15 :: a16 :: a17 :: a18 :: a19 :: a20 :: a21 :: a22 :: some (.ref x) :: t) q st) : V l G y cc nL ret R mc ms Z post L M cells slots (a0 :: a1 :: a2 :: a3 :: a4 :: a5 :: a6 :: a7 :: a8 :: a9 :: a10 :: a11 :: a12 :: a13 :: a14 :: a15 :: a16 :: a17 :: a18 :: a19 :: a20 :: a21 :: a22 :: b :: t) pc (.ref x :: st) := by
  subst hq
  intro p e s m args below meth c r0 r H locs ls hC hZ hW hR hlo hls
  exact lv_astore hC.1 hC.2.1 d hls.1 hn rfl (fun ls' h' => k p e s m args below meth c r0 r H locs ls' hC hZ hW hR hlo (gH.set (i := 23) (v := .ref x) hls.2 rfl h'))
theorem V_az23 (q : Nat) {a0 a1 a2 a3 a4 a5 a6 a7 a8 a9 a10 a11 a12 a13 a14 a15 a16 a17 a18 a19 a20 a21 a22 b : Option Value} {t : List (Option Value)}  (d : decode cc pc = .ok (.astore 23, 2)) (hn : 23 < nL) (hq : pc + 2 = q) (k : V l G y cc nL ret R mc ms Z post L M cells slots (a0 :: a1 :: a2 :: a3 :: a4 :: a5 :: a6 :: a7 :: a8 :: a9 :: a10 :: a11 :: a12 :: a13 :: a14 :: a15 :: a16 :: a17 :: a18 :: a19 :: a20 :: a21 :: a22 :: some (.null) :: t) q st) : V l G y cc nL ret R mc ms Z post L M cells slots (a0 :: a1 :: a2 :: a3 :: a4 :: a5 :: a6 :: a7 :: a8 :: a9 :: a10 :: a11 :: a12 :: a13 :: a14 :: a15 :: a16 :: a17 :: a18 :: a19 :: a20 :: a21 :: a22 :: b :: t) pc (.null :: st) := by
  subst hq
  intro p e s m args below meth c r0 r H locs ls hC hZ hW hR hlo hls
  exact lv_astoreN hC.1 hC.2.1 d hls.1 hn rfl (fun ls' h' => k p e s m args below meth c r0 r H locs ls' hC hZ hW hR hlo (gH.set (i := 23) (v := .null) hls.2 rfl h'))
theorem V_ii23 (q : Nat) {a0 a1 a2 a3 a4 a5 a6 a7 a8 a9 a10 a11 a12 a13 a14 a15 a16 a17 a18 a19 a20 a21 a22 : Option Value} {t : List (Option Value)} {x v : Int32} {n : Int} (d : decode cc pc = .ok (.iinc 23 n, 3)) (hn : 23 < nL) (hv : Int32.ofInt n = v) (hq : pc + 3 = q) (k : V l G y cc nL ret R mc ms Z post L M cells slots (a0 :: a1 :: a2 :: a3 :: a4 :: a5 :: a6 :: a7 :: a8 :: a9 :: a10 :: a11 :: a12 :: a13 :: a14 :: a15 :: a16 :: a17 :: a18 :: a19 :: a20 :: a21 :: a22 :: some (.int (x + v)) :: t) q st) : V l G y cc nL ret R mc ms Z post L M cells slots (a0 :: a1 :: a2 :: a3 :: a4 :: a5 :: a6 :: a7 :: a8 :: a9 :: a10 :: a11 :: a12 :: a13 :: a14 :: a15 :: a16 :: a17 :: a18 :: a19 :: a20 :: a21 :: a22 :: some (.int x) :: t) pc st := by
  subst hq
  subst hv
  intro p e s m args below meth c r0 r H locs ls hC hZ hW hR hlo hls
  obtain ⟨k9, hk9⟩ := List.getElem?_of_mem (gP_mem.mpr ⟨.int x, rfl, rfl⟩ : (23, Value.int x) ∈ gP r (a0 :: a1 :: a2 :: a3 :: a4 :: a5 :: a6 :: a7 :: a8 :: a9 :: a10 :: a11 :: a12 :: a13 :: a14 :: a15 :: a16 :: a17 :: a18 :: a19 :: a20 :: a21 :: a22 :: some (.int x) :: t))
  exact lv_iinc hC.1 hC.2.1 d hls.1 hk9 rfl hn rfl (fun ls' h' => k p e s m args below meth c r0 r H locs ls' hC hZ hW hR hlo (gH.set (i := 23) (v := .int (x + Int32.ofInt n)) hls.2 rfl h'))
theorem V_il24 (q : Nat) {a0 a1 a2 a3 a4 a5 a6 a7 a8 a9 a10 a11 a12 a13 a14 a15 a16 a17 a18 a19 a20 a21 a22 a23 : Option Value} {t : List (Option Value)} {x : Int32} (d : decode cc pc = .ok (.iload 24, 2)) (hq : pc + 2 = q) (k : V l G y cc nL ret R mc ms Z post L M cells slots (a0 :: a1 :: a2 :: a3 :: a4 :: a5 :: a6 :: a7 :: a8 :: a9 :: a10 :: a11 :: a12 :: a13 :: a14 :: a15 :: a16 :: a17 :: a18 :: a19 :: a20 :: a21 :: a22 :: a23 :: some (.int x) :: t) q (.int x :: st)) : V l G y cc nL ret R mc ms Z post L M cells slots (a0 :: a1 :: a2 :: a3 :: a4 :: a5 :: a6 :: a7 :: a8 :: a9 :: a10 :: a11 :: a12 :: a13 :: a14 :: a15 :: a16 :: a17 :: a18 :: a19 :: a20 :: a21 :: a22 :: a23 :: some (.int x) :: t) pc (st) := by
  subst hq
  intro p e s m args below meth c r0 r H locs ls hC hZ hW hR hlo hls
  exact lv_iload hC.1 hC.2.1 d (hls.at (i := 24) rfl) (k p e s m args below meth c r0 r H locs ls hC hZ hW hR hlo hls)
theorem V_al24 (q : Nat) {a0 a1 a2 a3 a4 a5 a6 a7 a8 a9 a10 a11 a12 a13 a14 a15 a16 a17 a18 a19 a20 a21 a22 a23 : Option Value} {t : List (Option Value)} {x : Nat} (d : decode cc pc = .ok (.aload 24, 2)) (hq : pc + 2 = q) (k : V l G y cc nL ret R mc ms Z post L M cells slots (a0 :: a1 :: a2 :: a3 :: a4 :: a5 :: a6 :: a7 :: a8 :: a9 :: a10 :: a11 :: a12 :: a13 :: a14 :: a15 :: a16 :: a17 :: a18 :: a19 :: a20 :: a21 :: a22 :: a23 :: some (.ref x) :: t) q (.ref x :: st)) : V l G y cc nL ret R mc ms Z post L M cells slots (a0 :: a1 :: a2 :: a3 :: a4 :: a5 :: a6 :: a7 :: a8 :: a9 :: a10 :: a11 :: a12 :: a13 :: a14 :: a15 :: a16 :: a17 :: a18 :: a19 :: a20 :: a21 :: a22 :: a23 :: some (.ref x) :: t) pc (st) := by
  subst hq
  intro p e s m args below meth c r0 r H locs ls hC hZ hW hR hlo hls
  exact lv_aload hC.1 hC.2.1 d (hls.at (i := 24) rfl) (k p e s m args below meth c r0 r H locs ls hC hZ hW hR hlo hls)
theorem V_an24 (q : Nat) {a0 a1 a2 a3 a4 a5 a6 a7 a8 a9 a10 a11 a12 a13 a14 a15 a16 a17 a18 a19 a20 a21 a22 a23 : Option Value} {t : List (Option Value)}  (d : decode cc pc = .ok (.aload 24, 2)) (hq : pc + 2 = q) (k : V l G y cc nL ret R mc ms Z post L M cells slots (a0 :: a1 :: a2 :: a3 :: a4 :: a5 :: a6 :: a7 :: a8 :: a9 :: a10 :: a11 :: a12 :: a13 :: a14 :: a15 :: a16 :: a17 :: a18 :: a19 :: a20 :: a21 :: a22 :: a23 :: some (.null) :: t) q (.null :: st)) : V l G y cc nL ret R mc ms Z post L M cells slots (a0 :: a1 :: a2 :: a3 :: a4 :: a5 :: a6 :: a7 :: a8 :: a9 :: a10 :: a11 :: a12 :: a13 :: a14 :: a15 :: a16 :: a17 :: a18 :: a19 :: a20 :: a21 :: a22 :: a23 :: some (.null) :: t) pc (st) := by
  subst hq
  intro p e s m args below meth c r0 r H locs ls hC hZ hW hR hlo hls
  exact lv_aloadN hC.1 hC.2.1 d (hls.at (i := 24) rfl) (k p e s m args below meth c r0 r H locs ls hC hZ hW hR hlo hls)
theorem V_is24 (q : Nat) {a0 a1 a2 a3 a4 a5 a6 a7 a8 a9 a10 a11 a12 a13 a14 a15 a16 a17 a18 a19 a20 a21 a22 a23 b : Option Value} {t : List (Option Value)} {x : Int32} (d : decode cc pc = .ok (.istore 24, 2)) (hn : 24 < nL) (hq : pc + 2 = q) (k : V l G y cc nL ret R mc ms Z post L M cells slots (a0 :: a1 :: a2 :: a3 :: a4 :: a5 :: a6 :: a7 :: a8 :: a9 :: a10 :: a11 :: a12 :: a13 :: a14 :: a15 :: a16 :: a17 :: a18 :: a19 :: a20 :: a21 :: a22 :: a23 :: some (.int x) :: t) q st) : V l G y cc nL ret R mc ms Z post L M cells slots (a0 :: a1 :: a2 :: a3 :: a4 :: a5 :: a6 :: a7 :: a8 :: a9 :: a10 :: a11 :: a12 :: a13 :: a14 :: a15 :: a16 :: a17 :: a18 :: a19 :: a20 :: a21 :: a22 :: a23 :: b :: t) pc (.int x :: st) := by
  subst hq
  intro p e s m args below meth c r0 r H locs ls hC hZ hW hR hlo hls
  exact lv_istore hC.1 hC.2.1 d hls.1 hn rfl (fun ls' h' => k p e s m args below meth c r0 r H locs ls' hC hZ hW hR hlo (gH.set (i := 24) (v := .int x) hls.2 rfl h'))
theorem V_as24 (q : Nat) {a0 a1 a2 a3 a4 a5 a6 a7 a8 a9 a10 a11 a12 a13 a14 a15 a16 a17 a18 a19 a20 a21 a22 a23 b : Option Value} {t : List (Option Value)} {x : Nat} (d : decode cc pc = .ok (.astore 24, 2)) (hn : 24 < nL) (hq : pc + 2 = q) (k : V l G y cc nL ret R mc ms Z post L M cells slots (a0 :: a1 :: a2 :: a3 :: a4 :: a5 :: a6 :: a7 :: a8 :: a9 :: a10 :: a11 :: a12 :: a13 :: a14 :: a15 :: a16 :: a17 :: a18 :: a19 :: a20 :: a21 :: a22 :: a23 :: some (.ref x) :: t) q st) : V l G y cc nL ret R mc ms Z post L M cells slots (a0 :: a1 :: a2 :: a3 :: a4 :: a5 :: a6 :: a7 :: a8 :: a9 :: a10 :: a11 :: a12 :: a13 :: a14 :: a15 :: a16 :: a17 :: a18 :: a19 :: a20 :: a21 :: a22 :: a23 :: b :: t) pc (.ref x :: st) := by
  subst hq
  intro p e s m args below meth c r0 r H locs ls hC hZ hW hR hlo hls
  exact lv_astore hC.1 hC.2.1 d hls.1 hn rfl (fun ls' h' => k p e s m args below meth c r0 r H locs ls' hC hZ hW hR hlo (gH.set (i := 24) (v := .ref x) hls.2 rfl h'))
theorem V_az24 (q : Nat) {a0 a1 a2 a3 a4 a5 a6 a7 a8 a9 a10 a11 a12 a13 a14 a15 a16 a17 a18 a19 a20 a21 a22 a23 b : Option Value} {t : List (Option Value)}  (d : decode cc pc = .ok (.astore 24, 2)) (hn : 24 < nL) (hq : pc + 2 = q) (k : V l G y cc nL ret R mc ms Z post L M cells slots (a0 :: a1 :: a2 :: a3 :: a4 :: a5 :: a6 :: a7 :: a8 :: a9 :: a10 :: a11 :: a12 :: a13 :: a14 :: a15 :: a16 :: a17 :: a18 :: a19 :: a20 :: a21 :: a22 :: a23 :: some (.null) :: t) q st) : V l G y cc nL ret R mc ms Z post L M cells slots (a0 :: a1 :: a2 :: a3 :: a4 :: a5 :: a6 :: a7 :: a8 :: a9 :: a10 :: a11 :: a12 :: a13 :: a14 :: a15 :: a16 :: a17 :: a18 :: a19 :: a20 :: a21 :: a22 :: a23 :: b :: t) pc (.null :: st) := by
  subst hq
  intro p e s m args below meth c r0 r H locs ls hC hZ hW hR hlo hls
  exact lv_astoreN hC.1 hC.2.1 d hls.1 hn rfl (fun ls' h' => k p e s m args below meth c r0 r H locs ls' hC hZ hW hR hlo (gH.set (i := 24) (v := .null) hls.2 rfl h'))
theorem V_ii24 (q : Nat) {a0 a1 a2 a3 a4 a5 a6 a7 a8 a9 a10 a11 a12 a13 a14 a15 a16 a17 a18 a19 a20 a21 a22 a23 : Option Value} {t : List (Option Value)} {x v : Int32} {n : Int} (d : decode cc pc = .ok (.iinc 24 n, 3)) (hn : 24 < nL) (hv : Int32.ofInt n = v) (hq : pc + 3 = q) (k : V l G y cc nL ret R mc ms Z post L M cells slots (a0 :: a1 :: a2 :: a3 :: a4 :: a5 :: a6 :: a7 :: a8 :: a9 :: a10 :: a11 :: a12 :: a13 :: a14 :: a15 :: a16 :: a17 :: a18 :: a19 :: a20 :: a21 :: a22 :: a23 :: some (.int (x + v)) :: t) q st) : V l G y cc nL ret R mc ms Z post L M cells slots (a0 :: a1 :: a2 :: a3 :: a4 :: a5 :: a6 :: a7 :: a8 :: a9 :: a10 :: a11 :: a12 :: a13 :: a14 :: a15 :: a16 :: a17 :: a18 :: a19 :: a20 :: a21 :: a22 :: a23 :: some (.int x) :: t) pc st := by
  subst hq
  subst hv
  intro p e s m args below meth c r0 r H locs ls hC hZ hW hR hlo hls
  obtain ⟨k9, hk9⟩ := List.getElem?_of_mem (gP_mem.mpr ⟨.int x, rfl, rfl⟩ : (24, Value.int x) ∈ gP r (a0 :: a1 :: a2 :: a3 :: a4 :: a5 :: a6 :: a7 :: a8 :: a9 :: a10 :: a11 :: a12 :: a13 :: a14 :: a15 :: a16 :: a17 :: a18 :: a19 :: a20 :: a21 :: a22 :: a23 :: some (.int x) :: t))
  exact lv_iinc hC.1 hC.2.1 d hls.1 hk9 rfl hn rfl (fun ls' h' => k p e s m args below meth c r0 r H locs ls' hC hZ hW hR hlo (gH.set (i := 24) (v := .int (x + Int32.ofInt n)) hls.2 rfl h'))
theorem V_il25 (q : Nat) {a0 a1 a2 a3 a4 a5 a6 a7 a8 a9 a10 a11 a12 a13 a14 a15 a16 a17 a18 a19 a20 a21 a22 a23 a24 : Option Value} {t : List (Option Value)} {x : Int32} (d : decode cc pc = .ok (.iload 25, 2)) (hq : pc + 2 = q) (k : V l G y cc nL ret R mc ms Z post L M cells slots (a0 :: a1 :: a2 :: a3 :: a4 :: a5 :: a6 :: a7 :: a8 :: a9 :: a10 :: a11 :: a12 :: a13 :: a14 :: a15 :: a16 :: a17 :: a18 :: a19 :: a20 :: a21 :: a22 :: a23 :: a24 :: some (.int x) :: t) q (.int x :: st)) : V l G y cc nL ret R mc ms Z post L M cells slots (a0 :: a1 :: a2 :: a3 :: a4 :: a5 :: a6 :: a7 :: a8 :: a9 :: a10 :: a11 :: a12 :: a13 :: a14 :: a15 :: a16 :: a17 :: a18 :: a19 :: a20 :: a21 :: a22 :: a23 :: a24 :: some (.int x) :: t) pc (st) := by
  subst hq
  intro p e s m args below meth c r0 r H locs ls hC hZ hW hR hlo hls
  exact lv_iload hC.1 hC.2.1 d (hls.at (i := 25) rfl) (k p e s m args below meth c r0 r H locs ls hC hZ hW hR hlo hls)
theorem V_al25 (q : Nat) {a0 a1 a2 a3 a4 a5 a6 a7 a8 a9 a10 a11 a12 a13 a14 a15 a16 a17 a18 a19 a20 a21 a22 a23 a24 : Option Value} {t : List (Option Value)} {x : Nat} (d : decode cc pc = .ok (.aload 25, 2)) (hq : pc + 2 = q) (k : V l G y cc nL ret R mc ms Z post L M cells slots (a0 :: a1 :: a2 :: a3 :: a4 :: a5 :: a6 :: a7 :: a8 :: a9 :: a10 :: a11 :: a12 :: a13 :: a14 :: a15 :: a16 :: a17 :: a18 :: a19 :: a20 :: a21 :: a22 :: a23 :: a24 :: some (.ref x) :: t) q (.ref x :: st)) : V l G y cc nL ret R mc ms Z post L M cells slots (a0 :: a1 :: a2 :: a3 :: a4 :: a5 :: a6 :: a7 :: a8 :: a9 :: a10 :: a11 :: a12 :: a13 :: a14 :: a15 :: a16 :: a17 :: a18 :: a19 :: a20 :: a21 :: a22 :: a23 :: a24 :: some (.ref x) :: t) pc (st) := by
  subst hq
  intro p e s m args below meth c r0 r H locs ls hC hZ hW hR hlo hls
  exact lv_aload hC.1 hC.2.1 d (hls.at (i := 25) rfl) (k p e s m args below meth c r0 r H locs ls hC hZ hW hR hlo hls)
theorem V_an25 (q : Nat) {a0 a1 a2 a3 a4 a5 a6 a7 a8 a9 a10 a11 a12 a13 a14 a15 a16 a17 a18 a19 a20 a21 a22 a23 a24 : Option Value} {t : List (Option Value)}  (d : decode cc pc = .ok (.aload 25, 2)) (hq : pc + 2 = q) (k : V l G y cc nL ret R mc ms Z post L M cells slots (a0 :: a1 :: a2 :: a3 :: a4 :: a5 :: a6 :: a7 :: a8 :: a9 :: a10 :: a11 :: a12 :: a13 :: a14 :: a15 :: a16 :: a17 :: a18 :: a19 :: a20 :: a21 :: a22 :: a23 :: a24 :: some (.null) :: t) q (.null :: st)) : V l G y cc nL ret R mc ms Z post L M cells slots (a0 :: a1 :: a2 :: a3 :: a4 :: a5 :: a6 :: a7 :: a8 :: a9 :: a10 :: a11 :: a12 :: a13 :: a14 :: a15 :: a16 :: a17 :: a18 :: a19 :: a20 :: a21 :: a22 :: a23 :: a24 :: some (.null) :: t) pc (st) := by
  subst hq
  intro p e s m args below meth c r0 r H locs ls hC hZ hW hR hlo hls
  exact lv_aloadN hC.1 hC.2.1 d (hls.at (i := 25) rfl) (k p e s m args below meth c r0 r H locs ls hC hZ hW hR hlo hls)
theorem V_is25 (q : Nat) {a0 a1 a2 a3 a4 a5 a6 a7 a8 a9 a10 a11 a12 a13 a14 a15 a16 a17 a18 a19 a20 a21 a22 a23 a24 b : Option Value} {t : List (Option Value)} {x : Int32} (d : decode cc pc = .ok (.istore 25, 2)) (hn : 25 < nL) (hq : pc + 2 = q) (k : V l G y cc nL ret R mc ms Z post L M cells slots (a0 :: a1 :: a2 :: a3 :: a4 :: a5 :: a6 :: a7 :: a8 :: a9 :: a10 :: a11 :: a12 :: a13 :: a14 :: a15 :: a16 :: a17 :: a18 :: a19 :: a20 :: a21 :: a22 :: a23 :: a24 :: some (.int x) :: t) q st) : V l G y cc nL ret R mc ms Z post L M cells slots (a0 :: a1 :: a2 :: a3 :: a4 :: a5 :: a6 :: a7 :: a8 :: a9 :: a10 :: a11 :: a12 :: a13 :: a14 :: a15 :: a16 :: a17 :: a18 :: a19 :: a20 :: a21 :: a22 :: a23 :: a24 :: b :: t) pc (.int x :: st) := by
  subst hq
  intro p e s m args below meth c r0 r H locs ls hC hZ hW hR hlo hls
  exact lv_istore hC.1 hC.2.1 d hls.1 hn rfl (fun ls' h' => k p e s m args below meth c r0 r H locs ls' hC hZ hW hR hlo (gH.set (i := 25) (v := .int x) hls.2 rfl h'))
theorem V_as25 (q : Nat) {a0 a1 a2 a3 a4 a5 a6 a7 a8 a9 a10 a11 a12 a13 a14 a15 a16 a17 a18 a19 a20 a21 a22 a23 a24 b : Option Value} {t : List (Option Value)} {x : Nat} (d : decode cc pc = .ok (.astore 25, 2)) (hn : 25 < nL) (hq : pc + 2 = q) (k : V l G y cc nL ret R mc ms Z post L M cells slots (a0 :: a1 :: a2 :: a3 :: a4 :: a5 :: a6 :: a7 :: a8 :: a9 :: a10 :: a11 :: a12 :: a13 :: a14 :: a15 :: a16 :: a17 :: a18 :: a19 :: a20 :: a21 :: a22 :: a23 :: a24 :: some (.ref x) :: t) q st) : V l G y cc nL ret R mc ms Z post L M cells slots (a0 :: a1 :: a2 :: a3 :: a4 :: a5 :: a6 :: a7 :: a8 :: a9 :: a10 :: a11 :: a12 :: a13 :: a14 :: a15 :: a16 :: a17 :: a18 :: a19 :: a20 :: a21 :: a22 :: a23 :: a24 :: b :: t) pc (.ref x :: st) := by
  subst hq
  intro p e s m args below meth c r0 r H locs ls hC hZ hW hR hlo hls
  exact lv_astore hC.1 hC.2.1 d hls.1 hn rfl (fun ls' h' => k p e s m args below meth c r0 r H locs ls' hC hZ hW hR hlo (gH.set (i := 25) (v := .ref x) hls.2 rfl h'))
theorem V_az25 (q : Nat) {a0 a1 a2 a3 a4 a5 a6 a7 a8 a9 a10 a11 a12 a13 a14 a15 a16 a17 a18 a19 a20 a21 a22 a23 a24 b : Option Value} {t : List (Option Value)}  (d : decode cc pc = .ok (.astore 25, 2)) (hn : 25 < nL) (hq : pc + 2 = q) (k : V l G y cc nL ret R mc ms Z post L M cells slots (a0 :: a1 :: a2 :: a3 :: a4 :: a5 :: a6 :: a7 :: a8 :: a9 :: a10 :: a11 :: a12 :: a13 :: a14 :: a15 :: a16 :: a17 :: a18 :: a19 :: a20 :: a21 :: a22 :: a23 :: a24 :: some (.null) :: t) q st) : V l G y cc nL ret R mc ms Z post L M cells slots (a0 :: a1 :: a2 :: a3 :: a4 :: a5 :: a6 :: a7 :: a8 :: a9 :: a10 :: a11 :: a12 :: a13 :: a14 :: a15 :: a16 :: a17 :: a18 :: a19 :: a20 :: a21 :: a22 :: a23 :: a24 :: b :: t) pc (.null :: st) := by
  subst hq
  intro p e s m args below meth c r0 r H locs ls hC hZ hW hR hlo hls
  exact lv_astoreN hC.1 hC.2.1 d hls.1 hn rfl (fun ls' h' => k p e s m args below meth c r0 r H locs ls' hC hZ hW hR hlo (gH.set (i := 25) (v := .null) hls.2 rfl h'))
theorem V_ii25 (q : Nat) {a0 a1 a2 a3 a4 a5 a6 a7 a8 a9 a10 a11 a12 a13 a14 a15 a16 a17 a18 a19 a20 a21 a22 a23 a24 : Option Value} {t : List (Option Value)} {x v : Int32} {n : Int} (d : decode cc pc = .ok (.iinc 25 n, 3)) (hn : 25 < nL) (hv : Int32.ofInt n = v) (hq : pc + 3 = q) (k : V l G y cc nL ret R mc ms Z post L M cells slots (a0 :: a1 :: a2 :: a3 :: a4 :: a5 :: a6 :: a7 :: a8 :: a9 :: a10 :: a11 :: a12 :: a13 :: a14 :: a15 :: a16 :: a17 :: a18 :: a19 :: a20 :: a21 :: a22 :: a23 :: a24 :: some (.int (x + v)) :: t) q st) : V l G y cc nL ret R mc ms Z post L M cells slots (a0 :: a1 :: a2 :: a3 :: a4 :: a5 :: a6 :: a7 :: a8 :: a9 :: a10 :: a11 :: a12 :: a13 :: a14 :: a15 :: a16 :: a17 :: a18 :: a19 :: a20 :: a21 :: a22 :: a23 :: a24 :: some (.int x) :: t) pc st := by
  subst hq
  subst hv
  intro p e s m args below meth c r0 r H locs ls hC hZ hW hR hlo hls
  obtain ⟨k9, hk9⟩ := List.getElem?_of_mem (gP_mem.mpr ⟨.int x, rfl, rfl⟩ : (25, Value.int x) ∈ gP r (a0 :: a1 :: a2 :: a3 :: a4 :: a5 :: a6 :: a7 :: a8 :: a9 :: a10 :: a11 :: a12 :: a13 :: a14 :: a15 :: a16 :: a17 :: a18 :: a19 :: a20 :: a21 :: a22 :: a23 :: a24 :: some (.int x) :: t))
  exact lv_iinc hC.1 hC.2.1 d hls.1 hk9 rfl hn rfl (fun ls' h' => k p e s m args below meth c r0 r H locs ls' hC hZ hW hR hlo (gH.set (i := 25) (v := .int (x + Int32.ofInt n)) hls.2 rfl h'))
/-- more room is counted -/
theorem V_widen (k9 n9 : Nat) (h1 : cells ≤ k9) (h2 : slots ≤ n9) (k : V l G y cc nL ret R mc ms Z post L M k9 n9 lv pc st) : V l G y cc nL ret R mc ms Z post L M cells slots lv pc st := by
  intro p e s m args below meth c r0 r H locs ls hC hZ hW hR hlo hls
  exact W.widen h1 h2 (k p e s m args below meth c r0 r H locs ls hC hZ hW hR hlo hls)
end gRows
end
section
/-! the memory changes -/
theorem gP1 {D : va_G} {cl : List vw_C} {x : Nat × va_E} {H : Heap} (h : va_at D cl x H) : va_P D cl [x] H := by
  intro k z hk
  cases k with
  | zero => cases hk; exact h
  | succ k => simp at hk
def gst (M : gMe) (a k : Nat) (x : Int32) : gMe := va_up M a (upd (M a) k x)
theorem gst_at (M : gMe) (a k : Nat) (x : Int32) (b j : Nat) : gst M a k x b j = if b = a then (if j = k then x else M a j) else M b j := by
  unfold gst va_up upd
  by_cases h : b = a
  · simp [h]
  · simp [h]
theorem gst_same (M : gMe) (a k : Nat) (x : Int32) : gst M a k x a = upd (M a) k x := by simp [gst, va_up]
theorem gst_ne (M : gMe) (a k : Nat) (x : Int32) {b : Nat} (h : b ≠ a) : gst M a k x b = M b := by simp [gst, va_up, h]
theorem va_up_id {α : Type} (f : Nat → α) (a : Nat) : va_up f a (f a) = f := by
  funext b
  by_cases h : b = a
  · subst h; simp [va_up]
  · simp [va_up, h]
theorem gR.up {G : gG} {r : Nat → Nat} {L : gLy} {M : gMe} {H H' : Heap} {a : Nat} {kd kd' : gK} {u' : Nat → Int32} (hR : gR G r L M H) (hL : L a = some kd) (hat : va_at G.1 vwCl (r a, gE G.2.1 r kd' u') H') (hcl : ∀ b, gRf kd' b → b < 2 ∨ L b ≠ none)
    (z : H'.size = H.size) (oq : ∀ q : Nat, q ≠ r a → H'[q]? = H[q]?) : gR G r (va_up L a (some kd')) (va_up M a u') H' := by
  obtain ⟨h1, h2, h3, h4, h5, h6⟩ := hR
  have hne : ∀ b, va_up L a (some kd') b ≠ none ↔ L b ≠ none := by
    intro b
    by_cases hb : b = a
    · subst hb; simp [va_up, hL]
    · simp [va_up, hb]
  refine ⟨fun b k hb => ?_, fun b c hb hc => h2 b c ((hne b).mp hb) ((hne c).mp hc), fun b k hb x hx => ?_, h4, by omega, fun q hq => ?_⟩
  · by_cases hba : b = a
    · subst hba
      rw [va_up_self] at hb
      cases hb
      rw [va_up_self]
      exact ⟨hat, (h1 b kd hL).2⟩
    · rw [va_up_ne _ _ hba] at hb
      rw [va_up_ne _ _ hba]
      obtain ⟨g1, g2⟩ := h1 b k hb
      exact ⟨g1.kept (oq _ (fun e => hba (h2 b a (by rw [hb]; exact fun h => by cases h) (by rw [hL]; exact fun h => by cases h) e))), g2⟩
  · rw [hne x]
    by_cases hba : b = a
    · subst hba
      rw [va_up_self] at hb
      cases hb
      exact hcl x hx
    · rw [va_up_ne _ _ hba] at hb
      exact h3 b k hb x hx
  · have hB := (h1 a kd hL).2.1
    rw [oq q (by omega)]
    exact h6 q hq
theorem gR.upM {G : gG} {r : Nat → Nat} {L : gLy} {M : gMe} {H H' : Heap} {a : Nat} {kd : gK} {u' : Nat → Int32} (hR : gR G r L M H) (hL : L a = some kd) (hat : va_at G.1 vwCl (r a, gE G.2.1 r kd u') H')
    (z : H'.size = H.size) (oq : ∀ q : Nat, q ≠ r a → H'[q]? = H[q]?) : gR G r L (va_up M a u') H' := by
  have h := gR.up hR hL hat (hR.2.2.1 a kd hL) z oq
  rw [← hL, va_up_id] at h
  exact h
theorem gR.new {G : gG} {r : Nat → Nat} {L : gLy} {M : gMe} {H H' : Heap} {a : Nat} {kd : gK} (hR : gR G r L M H) (hL : L a = none) (h2a : 2 ≤ a) (hat : va_at G.1 vwCl (H.size, gE G.2.1 (va_up r a H.size) kd (fun _ => 0)) H') (hcl : ∀ b, gRf kd b → b < 2 ∨ L b ≠ none)
    (z : H'.size = H.size + 1) (oq : ∀ q : Nat, q < H.size → H'[q]? = H[q]?) : gR G (va_up r a H.size) (va_up L a (some kd)) (va_up M a (fun _ => 0)) H' := by
  obtain ⟨h1, h2, h3, h4, h5, h6⟩ := hR
  have hlt : ∀ b k, L b = some k → r b < H.size := fun b k hb => (h1 b k hb).1.lt
  have hex : ∀ b, L b ≠ none → ∃ k, L b = some k := fun b hb => by
    cases hk : L b with
    | none => exact absurd hk hb
    | some k => exact ⟨k, rfl⟩
  refine ⟨fun b k hb => ?_, fun b c hb hc hbc => ?_, fun b k hb x hx => ?_, fun i hi => ?_, by omega, fun q hq => ?_⟩
  · by_cases hba : b = a
    · subst hba
      rw [va_up_self] at hb
      cases hb
      rw [va_up_self, va_up_self]
      exact ⟨hat, h5, h2a⟩
    · rw [va_up_ne _ _ hba] at hb
      rw [va_up_ne _ _ hba, va_up_ne _ _ hba]
      obtain ⟨g1, g2⟩ := h1 b k hb
      have e : gE G.2.1 (va_up r a H.size) k (M b) = gE G.2.1 r k (M b) := gE_eq (fun x hx => by
        rw [va_up_ne]
        rintro rfl
        rcases h3 b k hb x hx with h | h
        · omega
        · exact h hL)
      rw [e]
      exact ⟨g1.kept (oq _ g1.lt), g2⟩
  · by_cases hba : b = a
    · by_cases hca : c = a
      · rw [hba, hca]
      · subst hba
        rw [va_up_ne _ _ hca] at hc
        obtain ⟨k, hk⟩ := hex c hc
        rw [va_up_self, va_up_ne _ _ hca] at hbc
        have := hlt c k hk
        omega
    · rw [va_up_ne _ _ hba] at hb
      obtain ⟨k, hk⟩ := hex b hb
      by_cases hca : c = a
      · subst hca
        rw [va_up_self, va_up_ne _ _ hba] at hbc
        have := hlt b k hk
        omega
      · rw [va_up_ne _ _ hca] at hc
        rw [va_up_ne _ _ hba, va_up_ne _ _ hca] at hbc
        exact h2 b c hb hc hbc
  · have up : ∀ x, L x ≠ none → va_up L a (some kd) x ≠ none := by
      intro x hx
      by_cases hxa : x = a
      · subst hxa; rw [va_up_self]; exact fun h => by cases h
      · rw [va_up_ne _ _ hxa]; exact hx
    by_cases hba : b = a
    · subst hba
      rw [va_up_self] at hb
      cases hb
      exact (hcl x hx).imp id (up x)
    · rw [va_up_ne _ _ hba] at hb
      exact (h3 b k hb x hx).imp id (up x)
  · rw [va_up_ne _ _ (by omega)]
    exact h4 i hi
  · rw [oq q (by omega)]
    exact h6 q hq
/-- a place is given up: nothing refers to it -/
theorem gR.drop {G : gG} {r : Nat → Nat} {L : gLy} {M : gMe} {H : Heap} {a : Nat} (hR : gR G r L M H) (hno : ∀ b k, L b = some k → b ≠ a → ¬ gRf k a) : gR G r (va_up L a none) M H := by
  obtain ⟨h1, h2, h3, h4, h5, h6⟩ := hR
  have dn : ∀ x k, va_up L a none x = some k → x ≠ a ∧ L x = some k := by
    intro x k hx
    by_cases hxa : x = a
    · subst hxa; rw [va_up_self] at hx; cases hx
    · rw [va_up_ne _ _ hxa] at hx; exact ⟨hxa, hx⟩
  have dn' : ∀ x, va_up L a none x ≠ none → L x ≠ none := by
    intro x hx
    by_cases hxa : x = a
    · subst hxa; rw [va_up_self] at hx; exact absurd rfl hx
    · rw [va_up_ne _ _ hxa] at hx; exact hx
  refine ⟨fun b k hb => h1 b k (dn b k hb).2, fun b c hb hc => h2 b c (dn' b hb) (dn' c hc), fun b k hb x hx => ?_, h4, h5, h6⟩
  obtain ⟨hba, hb'⟩ := dn b k hb
  have hxa : x ≠ a := by rintro rfl; exact hno b k hb' hba hx
  rw [va_up_ne _ _ hxa]
  exact h3 b k hb' x hx
/-- the references that a frame holds -/
def gcl (Z : Nat → Prop) (lv : List (Option Value)) (st : List Value) : Prop := (∀ a, some (Value.ref a) ∈ lv → Z a) ∧ ∀ a, Value.ref a ∈ st → Z a
theorem gcl_all {lv : List (Option Value)} {st : List Value} : gcl (fun _ => True) lv st := ⟨fun _ _ => trivial, fun _ _ => trivial⟩
theorem gst_re {r r' : Nat → Nat} {st : List Value} (h : ∀ a, Value.ref a ∈ st → r' a = r a) : st.map (gV r') = st.map (gV r) := List.map_congr_left (fun v hv => gV_eq (fun a ha => h a (by subst ha; exact hv)))
/-- a class's table -/
def gCl (ci : Nat) (C : String) (T : u_T) (N : Nat) (ty : Nat → FieldType) : Prop := vwCl[ci]? = some (C, T, N) ∧ (∀ w ∈ u_ws C T N, w ∈ TB) ∧ (∀ k, k < N → parseFieldDescriptor (T k).2.2.1 = some (ty k)) ∧ ∀ a, a < N → ∀ b, b < N → a ≠ b → (T a).2.1 ≠ (T b).2.1
def gFl (own : String) (index : Nat) (ref nm ds : String) : Prop := Cond.fieldLink own index ref nm ds ∈ TB ∨ ∃ host, Cond.fieldLinkNest own index ref nm ds host ∈ NB
def gSf (ref O nm ds : String) : Prop := ref = O ∨ Cond.sameField ref O nm ds ∈ TB
theorem gSf.use {G : gG} {s : State} {args : Array Value} {ref O nm ds : String} (h : gSf ref O nm ds) (hW : gW G s) : ∀ x, s.fieldFound? O nm ds = some x → s.fieldFound? ref nm ds = some x := by
  rcases h with rfl | h
  · exact fun _ h => h
  · exact fun x hx => u_same (args := args) (hW.t h) x hx
section gMem
variable {l : Launch} {G : gG} {y : MethodName} {cc : ByteArray} {nL : Nat} {ret : Option FieldType} {R : Room} {mc ms : Nat} {Z : Nat → Prop} {post : Option Value → gLy → gMe → Prop} {L : gLy} {M : gMe} {cells slots : Nat} {lv : List (Option Value)} {pc : Nat} {st : List Value}
theorem V_getv (q k : Nat) {a ci index N : Nat} {C ref : String} {T : u_T} {ty : Nat → FieldType} {fs : List (Option Value)} {o : Option Value} {v : Value} (hL : L a = some (.inr (ci, fs))) (hc : gCl ci C T N ty) (hk : k < N) (hl : gFl y.cls index ref (T k).2.1 (T k).2.2.1) (hs : gSf ref (T k).1 (T k).2.1 (T k).2.2.1) (hf : fs[k]? = some o) (hv : ∀ r, gO r (M a k) o = gV r v) (d : decode cc pc = .ok (.getfield index, 3)) (hq : pc + 3 = q)
    (kk : V l G y cc nL ret R mc ms Z post L M cells slots lv q (v :: st)) : V l G y cc nL ret R mc ms Z post L M cells slots lv pc (.ref a :: st) := by
  subst hq
  intro p e s m args below meth c r0 r H locs ls hC hZ hW hR hlo hls
  have hP := gP1 (hR.1 a _ hL).1
  have hv' : (gF r (M a) fs)[k]? = some (gV r v) := by rw [gF_at, hf]; exact congrArg some (hv r)
  rcases hl with hl | ⟨host, hl⟩
  · exact va_get (Ts := TB) hC.1 hC.2.1 (fun w hw => hW.t hw) hc.2.1 hC.2.2.2.2.1 hW.2.2.1 hP 0 rfl hc.1 k hk (hW.t hl) (hs.use (args := args) hW) hv' d (kk p e s m args below meth c r0 r H locs ls hC hZ hW hR hlo hls)
  · exact va_getN (Ts := TB) hC.1 hC.2.1 (fun w hw => hW.t hw) hc.2.1 hC.2.2.2.2.1 hW.2.2.1 hP 0 rfl hc.1 k hk (va_Nw.use rfl (hW.2.1 _ hl)) (hs.use (args := args) hW) hv' d (kk p e s m args below meth c r0 r H locs ls hC hZ hW hR hlo hls)
/-- an int field -/
theorem V_geti (q k : Nat) {a ci index N : Nat} {C ref : String} {T : u_T} {ty : Nat → FieldType} {fs : List (Option Value)} (hL : L a = some (.inr (ci, fs))) (hc : gCl ci C T N ty) (hk : k < N) (hl : gFl y.cls index ref (T k).2.1 (T k).2.2.1) (hs : gSf ref (T k).1 (T k).2.1 (T k).2.2.1) (hf : fs[k]? = some none) (d : decode cc pc = .ok (.getfield index, 3)) (hq : pc + 3 = q)
    (kk : V l G y cc nL ret R mc ms Z post L M cells slots lv q (.int (M a k) :: st)) : V l G y cc nL ret R mc ms Z post L M cells slots lv pc (.ref a :: st) :=
  V_getv q k hL hc hk hl hs hf (fun _ => rfl) d hq kk
/-- a reference field -/
theorem V_getr (q k : Nat) {a ci index N : Nat} {C ref : String} {T : u_T} {ty : Nat → FieldType} {fs : List (Option Value)} {v : Value} (hL : L a = some (.inr (ci, fs))) (hc : gCl ci C T N ty) (hk : k < N) (hl : gFl y.cls index ref (T k).2.1 (T k).2.2.1) (hs : gSf ref (T k).1 (T k).2.1 (T k).2.2.1) (hf : fs[k]? = some (some v)) (d : decode cc pc = .ok (.getfield index, 3)) (hq : pc + 3 = q)
    (kk : V l G y cc nL ret R mc ms Z post L M cells slots lv q (v :: st)) : V l G y cc nL ret R mc ms Z post L M cells slots lv pc (.ref a :: st) :=
  V_getv q k hL hc hk hl hs hf (fun _ => rfl) d hq kk
/-- a field is written: what comes of it in the heap -/
theorem gput {p : Program} {e : Env} {s : State} {m : MethodId} {args : Array Value} {below : List Frame} {meth : Method} {c : Code} {r : Nat → Nat} {H : Heap} {locs : List Loc} {ls : Array Slot} {Q : State → Prop} {st' : List Value} (k : Nat) {a ci index N : Nat} {C ref : String} {T : u_T} {ty : Nat → FieldType} {fs : List (Option Value)} {v : Value}
    (hC : gC p s m meth c y cc nL ret) (hW : gW G s) (hR : gR G r L M H) (hL : L a = some (.inr (ci, fs))) (hc : gCl ci C T N ty) (hk : k < N) (hl : gFl y.cls index ref (T k).2.1 (T k).2.2.1) (hs : gSf ref (T k).1 (T k).2.1 (T k).2.2.1) (hfin : (T k).2.2.2 = false) (hn : narrow (ty k) v = v) (hfit : fits (ty k) v = true) (hlen : k < fs.length) (d : decode cc pc = .ok (.putfield index, 3))
    (kk : ∀ (H' : Heap) (z9 : Nat), va_at G.1 vwCl (r a, .inr (ci, (gF r (M a) fs).set k v)) H' → H'.size = H.size → (∀ q : Nat, q ≠ r a → H'[q]? = H[q]?) → W p l e R s m args below meth c H' (locs ++ [⟨r a, z9⟩]) cells slots Q (F0 m (pc + 3) ls st')) : W p l e R s m args below meth c H locs cells slots Q (F0 m pc ls (v :: .ref (r a) :: st')) := by
  have hap := va_apart (own := y.cls) (Ts := TB) (args := args) (fun w hw => hW.t hw) hc.2.1 ty hc.2.2.1 hc.2.2.2 hW.2.2.1 hc.1
  obtain ⟨r9, g1, cell, q1, q2, q3, q4⟩ := (hR.1 a _ hL).1
  have hr : r9 = (C, T, N) := Option.some.inj (g1.symm.trans hc.1)
  subst hr
  obtain ⟨hS, hfc, kC, hkC, hkind⟩ := hW.2.2.1.1 ci _ hc.1
  obtain ⟨cf, kf, fi, f, hi, hsl⟩ := hS k hk
  have hlay : (u_lay C T k).before args s = true := hW.t (hc.2.1 _ (u_in_lay hk))
  unfold u_lay at hlay
  rw [if_neg (by rw [hfin]; decide)] at hlay
  have hst := (u_facts hfc hkC (Or.inl hlay) hi).1
  have h6 := u_store hfc hkC hkind hlay hi (hc.2.2.1 k hk) hn hfit
  have hlen' : k < (gF r (M a) fs).length := by rw [gF_len]; exact hlen
  rcases hl with hl | ⟨host, hl⟩
  · refine W.putK hC.1 hC.2.1 (f := f) ⟨hC.2.2.2.2.1, hW.t hl, ⟨_, _, _, hs.use (args := args) hW _ hi⟩, hst⟩ (by rw [q2]; exact h6) q1 q3 (by rw [hsl]; exact k2_hasslot (q4 k hk)) rfl rfl d fun H' e1 e2 e3 => ?_
    rw [hsl] at e1 ⊢
    exact kk H' _ ⟨_, hc.1, t_OB.to (V := updV (vp_V (gF r (M a) fs)) k v) ⟨_, e1, q2, q3, t_set q4 hap hk v⟩ (fun j _ => vp_updV_set hlen' v j)⟩ e2 e3
  · refine va_WputK hC.1 hC.2.1 (f := f) hC.2.2.2.2.1 (va_Nw.use rfl (hW.2.1 _ hl)) (hs.use (args := args) hW _ hi) hst (by rw [q2]; exact h6) q1 q3 (by rw [hsl]; exact k2_hasslot (q4 k hk)) rfl rfl d fun H' e1 e2 e3 => ?_
    rw [hsl] at e1 ⊢
    exact kk H' _ ⟨_, hc.1, t_OB.to (V := updV (vp_V (gF r (M a) fs)) k v) ⟨_, e1, q2, q3, t_set q4 hap hk v⟩ (fun j _ => vp_updV_set hlen' v j)⟩ e2 e3
/-- the same of a final field in its class's constructor -/
theorem gputF {p : Program} {e : Env} {s : State} {m : MethodId} {args : Array Value} {below : List Frame} {meth : Method} {c : Code} {r : Nat → Nat} {H : Heap} {locs : List Loc} {ls : Array Slot} {Q : State → Prop} {st' : List Value} (k : Nat) {a ci index N : Nat} {C : String} {T : u_T} {ty : Nat → FieldType} {fs : List (Option Value)} {v : Value}
    (hC : gC p s m meth c y cc nL ret) (hW : gW G s) (hR : gR G r L M H) (hL : L a = some (.inr (ci, fs))) (hc : gCl ci C T N ty) (hk : k < N) (hl : Cond.fieldLink y.cls index (T k).1 (T k).2.1 (T k).2.2.1 ∈ TB) (hin : y.name = "<init>") (hdec : (T k).1 = y.cls) (hfin : (T k).2.2.2 = true) (hn : narrow (ty k) v = v) (hfit : fits (ty k) v = true) (hlen : k < fs.length) (d : decode cc pc = .ok (.putfield index, 3))
    (kk : ∀ (H' : Heap) (z9 : Nat), va_at G.1 vwCl (r a, .inr (ci, (gF r (M a) fs).set k v)) H' → H'.size = H.size → (∀ q : Nat, q ≠ r a → H'[q]? = H[q]?) → W p l e R s m args below meth c H' (locs ++ [⟨r a, z9⟩]) cells slots Q (F0 m (pc + 3) ls st')) : W p l e R s m args below meth c H locs cells slots Q (F0 m pc ls (v :: .ref (r a) :: st')) := by
  have hap := va_apart (own := y.cls) (Ts := TB) (args := args) (fun w hw => hW.t hw) hc.2.1 ty hc.2.2.1 hc.2.2.2 hW.2.2.1 hc.1
  obtain ⟨r9, g1, cell, q1, q2, q3, q4⟩ := (hR.1 a _ hL).1
  have hr : r9 = (C, T, N) := Option.some.inj (g1.symm.trans hc.1)
  subst hr
  obtain ⟨hS, hfc, kC, hkC, hkind⟩ := hW.2.2.1.1 ci _ hc.1
  obtain ⟨cf, kf, fi, f, hi, hsl⟩ := hS k hk
  have hlay : (u_lay C T k).before args s = true := hW.t (hc.2.1 _ (u_in_lay hk))
  unfold u_lay at hlay
  rw [if_pos hfin] at hlay
  have hst := (u_facts hfc hkC (Or.inr hlay) hi).1
  have hcf : m.cls = cf := by
    obtain ⟨_, _, c', _, _, _, -, -, hf', -, -, -, hown2, -⟩ := Cond.laysFinal_spec hlay
    have e1 : c' = cf := by have := hi.symm.trans hf'; simp at this; exact this.1.symm
    rw [hdec] at hown2
    rw [← e1]; exact Option.some.inj (hC.2.2.2.2.1.symm.trans hown2)
  have h6 := u_fits hfc hkC hkind (Or.inr hlay) hi (hc.2.2.1 k hk) hn hfit
  have hlen' : k < (gF r (M a) fs).length := by rw [gF_len]; exact hlen
  refine W.putFinK hC.1 hC.2.1 hC.2.2.2.2.1 (hW.t hl) hi hst hcf (hC.2.2.2.2.2.2.trans hin) (by rw [q2]; exact h6) q1 q3 (by rw [hsl]; exact k2_hasslot (q4 k hk)) rfl rfl d fun H' e1 e2 e3 => ?_
  rw [hsl] at e1 ⊢
  exact kk H' _ ⟨_, hc.1, t_OB.to (V := updV (vp_V (gF r (M a) fs)) k v) ⟨_, e1, q2, q3, t_set q4 hap hk v⟩ (fun j _ => vp_updV_set hlen' v j)⟩ e2 e3
theorem glo {B a z9 : Nat} {locs : List Loc} (hlo : ∀ q ∈ locs, B ≤ q.base) (ha : B ≤ a) : ∀ q ∈ locs ++ [⟨a, z9⟩], B ≤ q.base := by
  intro q hq
  rcases List.mem_append.mp hq with h | h
  · exact hlo q h
  · rw [List.mem_singleton] at h
    subst h
    exact ha
theorem V_puti (q k : Nat) {a ci index N : Nat} {C ref : String} {T : u_T} {ty : Nat → FieldType} {fs : List (Option Value)} {x : Int32} (hL : L a = some (.inr (ci, fs))) (hc : gCl ci C T N ty) (hk : k < N) (hl : gFl y.cls index ref (T k).2.1 (T k).2.2.1) (hs : gSf ref (T k).1 (T k).2.1 (T k).2.2.1) (hfin : (T k).2.2.2 = false) (hn : narrow (ty k) (.int x) = .int x) (hfit : fits (ty k) (.int x) = true) (hf : fs[k]? = some none) (d : decode cc pc = .ok (.putfield index, 3)) (hq : pc + 3 = q)
    (kk : V l G y cc nL ret R mc ms Z post L (gst M a k x) cells slots lv q st) : V l G y cc nL ret R mc ms Z post L M cells slots lv pc (.int x :: .ref a :: st) := by
  subst hq
  intro p e s m args below meth c r0 r H locs ls hC hZ hW hR hlo hls
  refine gput k (v := .int x) hC hW hR hL hc hk hl hs hfin hn hfit (List.getElem?_eq_some_iff.mp hf).1 d fun H' z9 g z oq => ?_
  refine kk p e s m args below meth c r0 r H' _ ls hC hZ hW (hR.upM hL ?_ z oq) (glo hlo (hR.1 a _ hL).2.1) hls
  rw [gF_seti r (M a) x hf] at g
  exact g
theorem V_putiF (q k : Nat) {a ci index N : Nat} {C : String} {T : u_T} {ty : Nat → FieldType} {fs : List (Option Value)} {x : Int32} (hL : L a = some (.inr (ci, fs))) (hc : gCl ci C T N ty) (hk : k < N) (hl : Cond.fieldLink y.cls index (T k).1 (T k).2.1 (T k).2.2.1 ∈ TB) (hin : y.name = "<init>") (hdec : (T k).1 = y.cls) (hfin : (T k).2.2.2 = true) (hn : narrow (ty k) (.int x) = .int x) (hfit : fits (ty k) (.int x) = true) (hf : fs[k]? = some none) (d : decode cc pc = .ok (.putfield index, 3)) (hq : pc + 3 = q)
    (kk : V l G y cc nL ret R mc ms Z post L (gst M a k x) cells slots lv q st) : V l G y cc nL ret R mc ms Z post L M cells slots lv pc (.int x :: .ref a :: st) := by
  subst hq
  intro p e s m args below meth c r0 r H locs ls hC hZ hW hR hlo hls
  refine gputF k (v := .int x) hC hW hR hL hc hk hl hin hdec hfin hn hfit (List.getElem?_eq_some_iff.mp hf).1 d fun H' z9 g z oq => ?_
  refine kk p e s m args below meth c r0 r H' _ ls hC hZ hW (hR.upM hL ?_ z oq) (glo hlo (hR.1 a _ hL).2.1) hls
  rw [gF_seti r (M a) x hf] at g
  exact g
/-- what a reference field may get: an object of the memory, a given table, null -/
def gpr (L : gLy) (v : Value) : Prop := ∀ b, v = .ref b → b < 2 ∨ L b ≠ none
theorem gcl_set {L : gLy} {ci k : Nat} {fs : List (Option Value)} {v : Value} (h : ∀ b, gRf (.inr (ci, fs)) b → b < 2 ∨ L b ≠ none) (hv : gpr L v) : ∀ b, gRf (.inr (ci, fs.set k (some v))) b → b < 2 ∨ L b ≠ none := by
  intro b hb
  rcases List.mem_or_eq_of_mem_set (show some (Value.ref b) ∈ fs.set k (some v) from hb) with hb | hb
  · exact h b hb
  · exact hv b (Option.some.inj hb).symm
theorem V_putr (q k : Nat) {a ci index N : Nat} {C ref : String} {T : u_T} {ty : Nat → FieldType} {fs : List (Option Value)} {v : Value} (hL : L a = some (.inr (ci, fs))) (hc : gCl ci C T N ty) (hk : k < N) (hl : gFl y.cls index ref (T k).2.1 (T k).2.2.1) (hs : gSf ref (T k).1 (T k).2.1 (T k).2.2.1) (hfin : (T k).2.2.2 = false) (hn : ∀ r, narrow (ty k) (gV r v) = gV r v) (hfit : ∀ r, fits (ty k) (gV r v) = true) (hlen : k < fs.length) (hv : gpr L v) (d : decode cc pc = .ok (.putfield index, 3)) (hq : pc + 3 = q)
    (kk : V l G y cc nL ret R mc ms Z post (va_up L a (some (.inr (ci, fs.set k (some v))))) M cells slots lv q st) : V l G y cc nL ret R mc ms Z post L M cells slots lv pc (v :: .ref a :: st) := by
  subst hq
  intro p e s m args below meth c r0 r H locs ls hC hZ hW hR hlo hls
  refine gput k (v := gV r v) hC hW hR hL hc hk hl hs hfin (hn r) (hfit r) hlen d fun H' z9 g z oq => ?_
  have h := hR.up (kd' := .inr (ci, fs.set k (some v))) (u' := M a) hL (by rw [gF_setr r (M a) v hlen] at g; exact g) (gcl_set (hR.2.2.1 a _ hL) hv) z oq
  rw [va_up_id] at h
  exact kk p e s m args below meth c r0 r H' _ ls hC hZ hW h (glo hlo (hR.1 a _ hL).2.1) hls
theorem V_putrF (q k : Nat) {a ci index N : Nat} {C : String} {T : u_T} {ty : Nat → FieldType} {fs : List (Option Value)} {v : Value} (hL : L a = some (.inr (ci, fs))) (hc : gCl ci C T N ty) (hk : k < N) (hl : Cond.fieldLink y.cls index (T k).1 (T k).2.1 (T k).2.2.1 ∈ TB) (hin : y.name = "<init>") (hdec : (T k).1 = y.cls) (hfin : (T k).2.2.2 = true) (hn : ∀ r, narrow (ty k) (gV r v) = gV r v) (hfit : ∀ r, fits (ty k) (gV r v) = true) (hlen : k < fs.length) (hv : gpr L v) (d : decode cc pc = .ok (.putfield index, 3)) (hq : pc + 3 = q)
    (kk : V l G y cc nL ret R mc ms Z post (va_up L a (some (.inr (ci, fs.set k (some v))))) M cells slots lv q st) : V l G y cc nL ret R mc ms Z post L M cells slots lv pc (v :: .ref a :: st) := by
  subst hq
  intro p e s m args below meth c r0 r H locs ls hC hZ hW hR hlo hls
  refine gputF k (v := gV r v) hC hW hR hL hc hk hl hin hdec hfin (hn r) (hfit r) hlen d fun H' z9 g z oq => ?_
  have h := hR.up (kd' := .inr (ci, fs.set k (some v))) (u' := M a) hL (by rw [gF_setr r (M a) v hlen] at g; exact g) (gcl_set (hR.2.2.1 a _ hL) hv) z oq
  rw [va_up_id] at h
  exact kk p e s m args below meth c r0 r H' _ ls hC hZ hW h (glo hlo (hR.1 a _ hL).2.1) hls
end gMem
end
section
section gArr
variable {l : Launch} {G : gG} {y : MethodName} {cc : ByteArray} {nL : Nat} {ret : Option FieldType} {R : Room} {mc ms : Nat} {Z : Nat → Prop} {post : Option Value → gLy → gMe → Prop} {L : gLy} {M : gMe} {cells slots : Nat} {lv : List (Option Value)} {pc : Nat} {st : List Value}
theorem V_iald (q : Nat) {a n : Nat} {i : Int32} (hL : L a = some (.inl (0, n, none))) (hin : vp_in i n) (d : decode cc pc = .ok (.iaload, 1)) (hq : pc + 1 = q)
    (kk : V l G y cc nL ret R mc ms Z post L M cells slots lv q (.int (M a i.toNatClampNeg) :: st)) : V l G y cc nL ret R mc ms Z post L M cells slots lv pc (.int i :: .ref a :: st) := by
  subst hq
  intro p e s m args below meth c r0 r H locs ls hC hZ hW hR hlo hls
  exact va_iald hC.1 hC.2.1 hW.2.2.1 (gP1 (hR.1 a _ hL).1) 0 0 rfl rfl hin d (kk p e s m args below meth c r0 r H locs ls hC hZ hW hR hlo hls)
/-- by a number -/
theorem V_ialn (q j : Nat) {a n : Nat} {i : Int32} (hL : L a = some (.inl (0, n, none))) (hi : i = nI j) (hj : j < n) (hn : n < 2 ^ 31) (d : decode cc pc = .ok (.iaload, 1)) (hq : pc + 1 = q)
    (kk : V l G y cc nL ret R mc ms Z post L M cells slots lv q (.int (M a j) :: st)) : V l G y cc nL ret R mc ms Z post L M cells slots lv pc (.int i :: .ref a :: st) := by
  subst hi
  refine V_iald q hL (vp_in_nI hj hn) d hq ?_
  rw [nI_clamp (by omega)]
  exact kk
theorem V_zald (q : Nat) {a n : Nat} {i : Int32} (hL : L a = some (.inl (1, n, none))) (hin : vp_in i n) (d : decode cc pc = .ok (.baload, 1)) (hq : pc + 1 = q)
    (kk : V l G y cc nL ret R mc ms Z post L M cells slots lv q (.int (M a i.toNatClampNeg) :: st)) : V l G y cc nL ret R mc ms Z post L M cells slots lv pc (.int i :: .ref a :: st) := by
  subst hq
  intro p e s m args below meth c r0 r H locs ls hC hZ hW hR hlo hls
  exact va_zald hC.1 hC.2.1 hW.2.2.1 (gP1 (hR.1 a _ hL).1) 0 1 rfl rfl hin d (kk p e s m args below meth c r0 r H locs ls hC hZ hW hR hlo hls)
theorem V_zaln (q j : Nat) {a n : Nat} {i : Int32} (hL : L a = some (.inl (1, n, none))) (hi : i = nI j) (hj : j < n) (hn : n < 2 ^ 31) (d : decode cc pc = .ok (.baload, 1)) (hq : pc + 1 = q)
    (kk : V l G y cc nL ret R mc ms Z post L M cells slots lv q (.int (M a j) :: st)) : V l G y cc nL ret R mc ms Z post L M cells slots lv pc (.int i :: .ref a :: st) := by
  subst hi
  refine V_zald q hL (vp_in_nI hj hn) d hq ?_
  rw [nI_clamp (by omega)]
  exact kk
theorem V_laln (q j : Nat) {a n : Nat} {i : Int32} (hL : L a = some (.inl (2, n, some none))) (hi : i = nI j) (hj : j < n) (hn : n < 2 ^ 31) (d : decode cc pc = .ok (.laload, 1)) (hq : pc + 1 = q)
    (kk : V l G y cc nL ret R mc ms Z post L M cells slots lv q (.long (M a j).toInt64 :: st)) : V l G y cc nL ret R mc ms Z post L M cells slots lv pc (.int i :: .ref a :: st) := by
  subst hq
  subst hi
  intro p e s m args below meth c r0 r H locs ls hC hZ hW hR hlo hls
  have h := kk p e s m args below meth c r0 r H locs ls hC hZ hW hR hlo hls
  rw [show M a j = M a (nI j).toNatClampNeg by rw [nI_clamp (by omega)]] at h
  exact va_lald hC.1 hC.2.1 hW.2.2.1 (gP1 (hR.1 a _ hL).1) 0 2 rfl rfl (vp_in_nI hj hn) d h
theorem V_alen (q : Nat) {a n t : Nat} {f : Option (Option (Nat → Option Nat))} {v : Int32} (ty : FieldType) (hL : L a = some (.inl (t, n, f))) (ht : (tyL G.2.1)[t]? = some (G.2.1 t, ty)) (hv : Int32.ofNat n = v) (d : decode cc pc = .ok (.arraylength, 1)) (hq : pc + 1 = q)
    (kk : V l G y cc nL ret R mc ms Z post L M cells slots lv q (.int v :: st)) : V l G y cc nL ret R mc ms Z post L M cells slots lv pc (.ref a :: st) := by
  subst hq
  intro p e s m args below meth c r0 r H locs ls hC hZ hW hR hlo hls
  have h := (hR.1 a _ hL).1
  have k := kk p e s m args below meth c r0 r H locs ls hC hZ hW hR hlo hls
  rcases f with _ | _ | f
  · exact va_alen (x := (n, .inl (M a))) hC.1 hC.2.1 hW.2.2.1 (gP1 h) 0 t rfl ht hv d k
  · exact va_alen (x := (n, .inr (.inl (fun j => (M a j).toInt64)))) hC.1 hC.2.1 hW.2.2.1 (gP1 h) 0 t rfl ht hv d k
  · exact va_alen (x := (n, .inr (.inr (.inr (.inr (fun j => (f j).map r)))))) hC.1 hC.2.1 hW.2.2.1 (gP1 h) 0 t rfl ht hv d k
theorem V_iast (q : Nat) {a n : Nat} {i x : Int32} (hL : L a = some (.inl (0, n, none))) (hin : vp_in i n) (d : decode cc pc = .ok (.iastore, 1)) (hq : pc + 1 = q)
    (kk : V l G y cc nL ret R mc ms Z post L (gst M a i.toNatClampNeg x) cells slots lv q st) : V l G y cc nL ret R mc ms Z post L M cells slots lv pc (.int x :: .int i :: .ref a :: st) := by
  subst hq
  intro p e s m args below meth c r0 r H locs ls hC hZ hW hR hlo hls
  have hcell : H[r a]? = some (arrV (G.2.1 0) n (fun j => .int (M a j))) := (hR.1 a _ hL).1
  refine W.iast hC.1 hC.2.1 hcell ((hW.2.2.1.2 0 _ rfl).1 n (fun j => .int (M a j))) (fun q => by cases q) (by rw [arrV_size]; exact hin) rfl rfl d fun H' e1 z oq => ?_
  refine kk p e s m args below meth c r0 r H' _ ls hC hZ hW (hR.upM hL ?_ z oq) (glo hlo (hR.1 a _ hL).2.1) hls
  show H'[r a]? = some (arrV (G.2.1 0) n (fun j => .int (upd (M a) i.toNatClampNeg x j)))
  rw [e1, arrV_store]
  congr 2
  funext j
  by_cases hj : j = i.toNatClampNeg
  · subst hj; simp [updV, upd]
  · simp [updV, upd, hj]
theorem V_iasn (q j : Nat) {a n : Nat} {i x : Int32} (hL : L a = some (.inl (0, n, none))) (hi : i = nI j) (hj : j < n) (hn : n < 2 ^ 31) (d : decode cc pc = .ok (.iastore, 1)) (hq : pc + 1 = q)
    (kk : V l G y cc nL ret R mc ms Z post L (gst M a j x) cells slots lv q st) : V l G y cc nL ret R mc ms Z post L M cells slots lv pc (.int x :: .int i :: .ref a :: st) := by
  subst hi
  refine V_iast q hL (vp_in_nI hj hn) d hq ?_
  rw [nI_clamp (by omega)]
  exact kk
theorem V_zasn (q j : Nat) {a n : Nat} {i x : Int32} (hL : L a = some (.inl (1, n, none))) (hi : i = nI j) (hj : j < n) (hn : n < 2 ^ 31) (hx : narrow .boolean (.int x) = .int x) (d : decode cc pc = .ok (.bastore, 1)) (hq : pc + 1 = q)
    (kk : V l G y cc nL ret R mc ms Z post L (gst M a j x) cells slots lv q st) : V l G y cc nL ret R mc ms Z post L M cells slots lv pc (.int x :: .int i :: .ref a :: st) := by
  subst hq
  subst hi
  intro p e s m args below meth c r0 r H locs ls hC hZ hW hR hlo hls
  have hcell : H[r a]? = some (arrV (G.2.1 1) n (fun j => .int (M a j))) := (hR.1 a _ hL).1
  refine W.zast hC.1 hC.2.1 hcell ((hW.2.2.1.2 1 _ rfl).1 n (fun j => .int (M a j))) (fun q => by cases q) (by rw [arrV_size]; exact vp_in_nI hj hn) rfl rfl d fun H' e1 z oq => ?_
  refine kk p e s m args below meth c r0 r H' _ ls hC hZ hW (hR.upM hL ?_ z oq) (glo hlo (hR.1 a _ hL).2.1) hls
  show H'[r a]? = some (arrV (G.2.1 1) n (fun i => .int (upd (M a) j x i)))
  rw [e1, arrV_store, hx, nI_clamp (by omega)]
  congr 2
  funext i
  by_cases hj : i = j
  · subst hj; simp [updV, upd]
  · simp [updV, upd, hj]
theorem V_lasn (q j : Nat) (x : Int32) {a n : Nat} {i : Int32} {w : Int64} (hL : L a = some (.inl (2, n, some none))) (hi : i = nI j) (hj : j < n) (hn : n < 2 ^ 31) (hx : w = x.toInt64) (d : decode cc pc = .ok (.lastore, 1)) (hq : pc + 1 = q)
    (kk : V l G y cc nL ret R mc ms Z post L (gst M a j x) cells slots lv q st) : V l G y cc nL ret R mc ms Z post L M cells slots lv pc (.long w :: .int i :: .ref a :: st) := by
  subst hq
  subst hi
  subst hx
  intro p e s m args below meth c r0 r H locs ls hC hZ hW hR hlo hls
  have hcell : H[r a]? = some (arrV (G.2.1 2) n (fun j => .long ((M a j).toInt64))) := (hR.1 a _ hL).1
  refine W.last hC.1 hC.2.1 hcell ((hW.2.2.1.2 2 _ rfl).1 n (fun j => .long ((M a j).toInt64))) (fun q => by cases q) (by rw [arrV_size]; exact vp_in_nI hj hn) rfl rfl d fun H' e1 z oq => ?_
  refine kk p e s m args below meth c r0 r H' _ ls hC hZ hW (hR.upM hL ?_ z oq) (glo hlo (hR.1 a _ hL).2.1) hls
  show H'[r a]? = some (arrV (G.2.1 2) n (fun i => .long ((upd (M a) j x i).toInt64)))
  rw [e1, arrV_store, nI_clamp (by omega)]
  congr 2
  funext i
  by_cases hj : i = j
  · subst hj; simp [updV, upd]
  · simp [updV, upd, hj]
/-- an object out of an array -/
theorem V_aaln (q j b : Nat) {a n t : Nat} {i : Int32} {f : Nat → Option Nat} (C : String) (hL : L a = some (.inl (t, n, some (some f)))) (ht : (tyL G.2.1)[t]? = some (G.2.1 t, .object C)) (hi : i = nI j) (hj : j < n) (hn : n < 2 ^ 31) (hb : f j = some b) (d : decode cc pc = .ok (.aaload, 1)) (hq : pc + 1 = q)
    (kk : V l G y cc nL ret R mc ms Z post L M cells slots lv q (.ref b :: st)) : V l G y cc nL ret R mc ms Z post L M cells slots lv pc (.int i :: .ref a :: st) := by
  subst hq
  subst hi
  intro p e s m args below meth c r0 r H locs ls hC hZ hW hR hlo hls
  have h := kk p e s m args below meth c r0 r H locs ls hC hZ hW hR hlo hls
  refine va_aldq (f := fun j => (f j).map r) hC.1 hC.2.1 hW.2.2.1 (gP1 (hR.1 a _ hL).1) 0 t rfl ht (vp_in_nI hj hn) d ?_
  rw [nI_clamp (by omega), hb]
  exact h
/-- the ends -/
theorem V_vret (hr : ret = none) (d : decode cc pc = .ok (.return_, 1)) (h : post none L M) : V l G y cc nL ret R mc ms Z post L M mc ms lv pc [] := by
  intro p e s m args below meth c r0 r H locs ls hC hZ hW hR hlo hls
  exact W.vret hC.1 hC.2.1 (hC.2.2.1.trans hr) (fun t ht hW' => ⟨none, L, M, r, rfl, h, hZ, gW.moved hW' hW, by rw [ht]; exact hR⟩) hlo d hC.2.2.2.2.2.1
theorem V_iret {x : Int32} (hr : ret = some .int) (d : decode cc pc = .ok (.ireturn, 1)) (h : post (some (.int x)) L M) : V l G y cc nL ret R mc ms Z post L M mc ms lv pc [.int x] := by
  intro p e s m args below meth c r0 r H locs ls hC hZ hW hR hlo hls
  exact W.iret hC.1 hC.2.1 (hC.2.2.1.trans hr) (fun t ht hW' => ⟨some (.int x), L, M, r, rfl, h, hZ, gW.moved hW' hW, by rw [ht]; exact hR⟩) hlo d hC.2.2.2.2.2.1
theorem V_zret {x : Int32} {ty : FieldType} (hr : ret = some ty) (hn : narrow ty (.int x) = .int x) (d : decode cc pc = .ok (.ireturn, 1)) (h : post (some (.int x)) L M) : V l G y cc nL ret R mc ms Z post L M mc ms lv pc [.int x] := by
  intro p e s m args below meth c r0 r H locs ls hC hZ hW hR hlo hls
  exact W.zret hC.1 hC.2.1 (hC.2.2.1.trans hr) hn (fun t ht hW' => ⟨some (.int x), L, M, r, rfl, h, hZ, gW.moved hW' hW, by rw [ht]; exact hR⟩) hlo d hC.2.2.2.2.2.1
theorem V_aret {v : Value} {rt : FieldType} (hr : ret = some rt) (hrt : (∃ n, rt = .object n) ∨ ∃ t, rt = .array t) (hv : v = .null ∨ ∃ a, v = .ref a) (d : decode cc pc = .ok (.areturn, 1)) (h : post (some v) L M) : V l G y cc nL ret R mc ms Z post L M mc ms lv pc [v] := by
  intro p e s m args below meth c r0 r H locs ls hC hZ hW hR hlo hls
  exact W.aret (v := gV r v) hC.1 hC.2.1 (hC.2.2.1.trans hr) hrt (by rcases hv with rfl | ⟨a, rfl⟩ <;> simp [gV]) (fun t ht hW' => ⟨some v, L, M, r, rfl, h, hZ, gW.moved hW' hW, by rw [ht]; exact hR⟩) hlo d hC.2.2.2.2.2.1
/-- another memory, the same -/
theorem V_mem {L' : gLy} {M' : gMe} (hL : L = L') (hM : M = M') (kk : V l G y cc nL ret R mc ms Z post L' M' cells slots lv pc st) : V l G y cc nL ret R mc ms Z post L M cells slots lv pc st := by
  subst hL; subst hM; exact kk
theorem V_m {M' : gMe} (hM : M = M') (kk : V l G y cc nL ret R mc ms Z post L M' cells slots lv pc st) : V l G y cc nL ret R mc ms Z post L M cells slots lv pc st := by
  subst hM; exact kk
/-- another frame, the same -/
theorem V_fr {lv' : List (Option Value)} {st' : List Value} (h1 : lv = lv') (h2 : st = st') (kk : V l G y cc nL ret R mc ms Z post L M cells slots lv' pc st') : V l G y cc nL ret R mc ms Z post L M cells slots lv pc st := by
  subst h1; subst h2; exact kk
/-- fewer locals are remembered -/
theorem V_forget {lv' : List (Option Value)} (h : ∀ (i : Nat) (v : Value), lv'[i]? = some (some v) → lv[i]? = some (some v)) (kk : V l G y cc nL ret R mc ms Z post L M cells slots lv' pc st) : V l G y cc nL ret R mc ms Z post L M cells slots lv pc st := by
  intro p e s m args below meth c r0 r H locs ls hC hZ hW hR hlo hls
  refine kk p e s m args below meth c r0 r H locs ls hC hZ hW hR hlo ⟨⟨hls.1.1, hls.1.2.1, fun q hq => ?_⟩, fun v hv => ?_⟩
  · obtain ⟨v, h1, h2⟩ := gP_mem.mp hq
    exact hls.1.2.2 q (gP_mem.mpr ⟨v, h _ v h1, h2⟩)
  · obtain ⟨i, hi⟩ := List.getElem?_of_mem hv
    exact hls.2 v (List.mem_of_getElem? (h i v hi))
theorem V_drop (a : Nat) (hno : ∀ b k, L b = some k → b ≠ a → ¬ gRf k a) (kk : V l G y cc nL ret R mc ms Z post (va_up L a none) M cells slots lv pc st) : V l G y cc nL ret R mc ms Z post L M cells slots lv pc st := by
  intro p e s m args below meth c r0 r H locs ls hC hZ hW hR hlo hls
  exact kk p e s m args below meth c r0 r H locs ls hC hZ hW (hR.drop hno) hlo hls
end gArr
end
section
/-- a method of ours, as its callers need it -/
def gOK (y1 : MethodName) (cc1 : ByteArray) (nL1 : Nat) (ret1 : Option FieldType) (n1 : Nat) : Prop := Cond.code y1 cc1 nL1 ret1 ∈ TB ∧ Cond.initialized y1.cls ∈ TB ∧ (y1.cls ≠ "java/lang/invoke/MethodHandle" ∧ y1.cls ≠ "java/lang/invoke/VarHandle") ∧ (parseMethodDescriptor y1.desc).map (fun d => d.parameters.length) = some n1
def gMl (own : String) (index : Nat) (y1 : MethodName) : Prop := Cond.methodLink own index y1 ∈ TB ∨ ∃ host, Cond.methodLinkNest own index y1 host ∈ NB
def gRm (R rm1 : Room) (mc1 ms1 nL1 : Nat) : Prop := rm1.cells = mc1 ∧ rm1.slots = ms1 ∧ rm1.frames + 1 ≤ R.frames ∧ 8 + (nL1 + 11) + rm1.locals ≤ R.locals
theorem gblind {G : gG} {r : Nat → Nat} {L : gLy} {M : gMe} {av : List Value} : FrameBlind (va_Pc av (fun U => gW G U ∧ gR G r L M U.heap)) := fun a U g mk q => ⟨q.1, gW.moved (s := U) (U := U.calling g mk a) (State.WarmedH.refl U) q.2.1, q.2.2⟩
theorem gws {G : gG} {s : State} (hW : gW G s) {w0 : Cond} (h : w0 ∈ TB) : ∀ w ∈ [w0], ∀ (a' : Array Value) (U : State), s.WarmedH U.vm → w.before a' U = true := by
  intro w hw a' U hU
  rw [List.mem_singleton] at hw
  subst hw
  exact word_at (args := #[]) hU (good_of_word (TB_good _ h)) (hW.1 _ h)
theorem gsig {y1 : MethodName} {n1 : Nat} (h : (parseMethodDescriptor y1.desc).map (fun d => d.parameters.length) = some n1) : ∀ sig, parseMethodDescriptor y1.desc = some sig → n1 = sig.parameters.length := by
  intro sig hs
  rw [hs] at h
  exact (Option.some.inj h).symm
theorem gcat (r : Nat → Nat) (st : List Value) : (st.map (gV r)).map (fun v => v.category) = st.map (fun v => v.category) := by
  rw [List.map_map]
  exact List.map_congr_left (fun v _ => gV_cat r v)
theorem grev (r : Nat → Nat) (as st : List Value) : (as.reverse ++ st).map (gV r) = (as.map (gV r)).reverse ++ st.map (gV r) := by
  rw [List.map_append, List.map_reverse]
section gCalls
variable {l : Launch} {G : gG} {y : MethodName} {cc : ByteArray} {nL : Nat} {ret : Option FieldType} {R : Room} {mc ms : Nat} {Z : Nat → Prop} {post : Option Value → gLy → gMe → Prop} {L : gLy} {M : gMe} {cells slots : Nat} {lv : List (Option Value)} {pc : Nat} {st : List Value}
variable {y1 : MethodName} {cc1 : ByteArray} {nL1 n1 : Nat} {ret1 : Option FieldType} {rm1 : Room} {as : List Value} {mc1 ms1 index : Nat} {Z1 : Nat → Prop} {post1 : Option Value → gLy → gMe → Prop}
theorem gcall {p : Program} {e : Env} {s : State} {m : MethodId} {args : Array Value} {below : List Frame} {meth : Method} {c : Code} {r0 r : Nat → Nat} {H : Heap} {locs : List Loc} {ls : Array Slot} {a1 : Array Value} {st0 : List Value} (hC : gC p s m meth c y cc nL ret) (hZ : ∀ a, Z a → r a = r0 a) (hW : gW G s) (hlo : ∀ q ∈ locs, G.2.2.1 ≤ q.base) (hls : gH ls nL r lv)
    (hr : va_Run p l e R s m args below meth c H locs cells slots mc1 ms1 (F0 m pc ls st0) (st.map (gV r)) (gQ G r Z1 post1 a1) (fun q => G.2.2.1 ≤ q)) (hZ1 : ∀ a, Z a → Z1 a) (hcl : gcl Z1 lv st)
    (kk : ∀ v L' M', post1 v L' M' → V l G y cc nL ret R mc ms Z post L' M' (cells + mc1) (slots + ms1) lv (pc + 3) (v.toList ++ st)) : W p l e R s m args below meth c H locs cells slots (MQ below (gQ G r0 Z post) args s mc ms (fun q => G.2.2.1 ≤ q)) (F0 m pc ls st0) := by
  intro T hT X
  obtain ⟨v, st₀, t, T', L9, h0, X', hL, e1, e2, ⟨v', L', M', r', hv, hp, hz, hw, hR'⟩, stp⟩ := hr T hT X
  cases hv
  have hst : (v'.toList ++ st).map (gV r') = (v'.map (gV r')).toList ++ st.map (gV r) := by
    rw [List.map_append, gst_re (r := r) (r' := r') (fun a ha => hz a (hcl.2 a ha))]
    cases v' <;> rfl
  have h := kk v' L' M' hp p e s m args below meth c r0 r' T'.heap (locs ++ L9) ls hC (fun a ha => (hz a (hZ1 a ha)).trans (hZ a ha)) hW (by rw [e1]; exact hR') (by
    intro q hq
    rcases List.mem_append.mp hq with hq | hq
    · exact hlo q hq
    · exact hL q hq) (hls.re (fun a ha => hz a (hcl.1 a ha)))
  rw [hst] at h
  obtain ⟨t2, a2, b2⟩ := h T' rfl X'
  exact ⟨t2, stp t2 a2, b2⟩
theorem V_callS (q : Nat) {st0 : List Value} (hM : gMet l G y1 cc1 nL1 ret1 rm1 as L M Z1 post1 mc1 ms1) (ok : gOK y1 cc1 nL1 ret1 n1) (hl : gMl y.cls index y1) (hk : Cond.static y1 ∈ TB) (hrm : gRm R rm1 mc1 ms1 nL1) (hn : as.length = n1) (hs0 : st0 = as.reverse ++ st) (hrest : (st.map fun v => v.category).sum ≤ 8) (d : decode cc pc = .ok (.invokestatic index, 3)) (hf : cells + mc1 ≤ R.cells ∧ slots + ms1 ≤ R.slots) (hZ1 : ∀ a, Z a → Z1 a) (hcl : gcl Z1 lv st) (hq : pc + 3 = q)
    (kk : ∀ v L' M', post1 v L' M' → V l G y cc nL ret R mc ms Z post L' M' (cells + mc1) (slots + ms1) lv q (v.toList ++ st)) : V l G y cc nL ret R mc ms Z post L M cells slots lv pc st0 := by
  subst hq
  subst hs0
  intro p e s m args below meth c r0 r H locs ls hC hZ hW hR hlo hls
  rw [grev]
  have hp : PreS s H (va_Pc (as.map (gV r)) (fun U => gW G U ∧ gR G r L M U.heap)) (as.map (gV r)) := ⟨gblind, fun U hU hWU => ⟨rfl, gW.moved hWU hW, by rw [hU]; exact hR⟩⟩
  have S : CallFix p m c cc nL s args TB y.cls := ⟨hC.1, hC.2.1, hC.2.2.2.1, hC.2.2.2.2.1, fun w hw => hW.t hw⟩
  have hrm8 : 2 * (F0 m pc ls ((as.map (gV r)).reverse ++ st.map (gV r))).monitorRoom + ((st.map (gV r)).map fun v => v.category).sum ≤ 8 := lv_room (by rw [gcat]; exact hrest)
  refine gcall hC hZ hW hlo hls ?_ hZ1 hcl kk (a1 := (as.map (gV r)).toArray)
  rcases hl with hl | ⟨host, hl⟩
  · exact va_runS S (hM r) ⟨⟨hrm.1, hrm.2.1, hrm.2.2.1, hrm.2.2.2, gws hW ok.1, List.mem_singleton.mpr rfl, hW.t ok.1, hW.t ok.2.1, ok.2.2.1, gsig ok.2.2.2, hW.t hl⟩, hW.t hk⟩ hp rfl (by rw [List.length_map]; exact hn) hls.1.1 rfl hrm8 d hf
  · exact va_runSN S (hM r) ⟨⟨⟨hrm.1, hrm.2.1, hrm.2.2.1, hrm.2.2.2, gws hW ok.1, List.mem_singleton.mpr rfl⟩, hW.t ok.1, hW.t ok.2.1, ok.2.2.1, gsig ok.2.2.2, va_Nw.use rfl (hW.2.1 _ hl)⟩, hW.t hk, trivial⟩ hp rfl (by rw [List.length_map]; exact hn) hls.1.1 rfl hrm8 d hf
theorem V_callI (q : Nat) {st0 : List Value} {b : Nat} (hM : gMet l G y1 cc1 nL1 none rm1 (.ref b :: as) L M Z1 post1 mc1 ms1) (ok : gOK y1 cc1 nL1 none n1) (hl : gMl y.cls index y1) (hk : Cond.instanceMethod y1 ∈ TB) (hnm : y1.name = "<init>") (hrm : gRm R rm1 mc1 ms1 nL1) (hn : as.length = n1) (hs0 : st0 = as.reverse ++ .ref b :: st) (hrest : (st.map fun v => v.category).sum ≤ 8) (d : decode cc pc = .ok (.invokespecial index, 3)) (hf : cells + mc1 ≤ R.cells ∧ slots + ms1 ≤ R.slots) (hZ1 : ∀ a, Z a → Z1 a) (hcl : gcl Z1 lv st) (hq : pc + 3 = q)
    (kk : ∀ v L' M', post1 v L' M' → V l G y cc nL ret R mc ms Z post L' M' (cells + mc1) (slots + ms1) lv q (v.toList ++ st)) : V l G y cc nL ret R mc ms Z post L M cells slots lv pc st0 := by
  subst hq
  subst hs0
  intro p e s m args below meth c r0 r H locs ls hC hZ hW hR hlo hls
  rw [grev]
  have hp : PreS s H (va_Pc ((Value.ref b :: as).map (gV r)) (fun U => gW G U ∧ gR G r L M U.heap)) (.ref (r b) :: as.map (gV r)) := ⟨gblind, fun U hU hWU => ⟨rfl, gW.moved hWU hW, by rw [hU]; exact hR⟩⟩
  have S : CallFix p m c cc nL s args TB y.cls := ⟨hC.1, hC.2.1, hC.2.2.2.1, hC.2.2.2.2.1, fun w hw => hW.t hw⟩
  have hrm8 : 2 * (F0 m pc ls ((as.map (gV r)).reverse ++ .ref (r b) :: st.map (gV r))).monitorRoom + ((st.map (gV r)).map fun v => v.category).sum ≤ 8 := lv_room (by rw [gcat]; exact hrest)
  refine gcall hC hZ hW hlo hls ?_ hZ1 hcl kk (a1 := (Value.ref (r b) :: as.map (gV r)).toArray)
  rcases hl with hl | ⟨host, hl⟩
  · exact va_runI S (hM r) ⟨⟨hrm.1, hrm.2.1, hrm.2.2.1, hrm.2.2.2, gws hW ok.1, List.mem_singleton.mpr rfl, hW.t ok.1, hW.t ok.2.1, ok.2.2.1, gsig ok.2.2.2, hW.t hl⟩, hnm, hW.t hk⟩ hp rfl (by rw [List.length_map]; exact hn) hls.1.1 rfl hrm8 d hf
  · exact va_runIN S (hM r) ⟨⟨⟨hrm.1, hrm.2.1, hrm.2.2.1, hrm.2.2.2, gws hW ok.1, List.mem_singleton.mpr rfl⟩, hW.t ok.1, hW.t ok.2.1, ok.2.2.1, gsig ok.2.2.2, va_Nw.use rfl (hW.2.1 _ hl)⟩, hnm, hW.t hk⟩ hp rfl (by rw [List.length_map]; exact hn) hls.1.1 rfl hrm8 d hf
theorem V_callV (q : Nat) {st0 : List Value} {b ci N : Nat} {T : u_T} {ty : Nat → FieldType} {fs : List (Option Value)} (hM : gMet l G y1 cc1 nL1 ret1 rm1 (.ref b :: as) L M Z1 post1 mc1 ms1) (ok : gOK y1 cc1 nL1 ret1 n1) (hl : gMl y.cls index y1) (hk : Cond.instanceMethod y1 ∈ TB) (hsel : Cond.selects y1.cls y1 y1 ∈ TB) (hL : L b = some (.inr (ci, fs))) (hc : gCl ci y1.cls T N ty) (hrm : gRm R rm1 mc1 ms1 nL1) (hn : as.length = n1) (hs0 : st0 = as.reverse ++ .ref b :: st) (hrest : (st.map fun v => v.category).sum ≤ 8) (d : decode cc pc = .ok (.invokevirtual index, 3)) (hf : cells + mc1 ≤ R.cells ∧ slots + ms1 ≤ R.slots) (hZ1 : ∀ a, Z a → Z1 a) (hcl : gcl Z1 lv st) (hq : pc + 3 = q)
    (kk : ∀ v L' M', post1 v L' M' → V l G y cc nL ret R mc ms Z post L' M' (cells + mc1) (slots + ms1) lv q (v.toList ++ st)) : V l G y cc nL ret R mc ms Z post L M cells slots lv pc st0 := by
  subst hq
  subst hs0
  intro p e s m args below meth c r0 r H locs ls hC hZ hW hR hlo hls
  rw [grev]
  have hp : PreV s H y1.cls (r b) (va_Pc ((Value.ref b :: as).map (gV r)) (fun U => gW G U ∧ gR G r L M U.heap)) (as.map (gV r)) := ⟨gblind, va_recv hW.2.2.1 (gP1 (hR.1 b _ hL).1) hc.1 (q0 := 0) rfl, fun U hU hWU => ⟨rfl, gW.moved hWU hW, by rw [hU]; exact hR⟩⟩
  have S : CallFix p m c cc nL s args TB y.cls := ⟨hC.1, hC.2.1, hC.2.2.2.1, hC.2.2.2.2.1, fun w hw => hW.t hw⟩
  have hrm8 : 2 * (F0 m pc ls ((as.map (gV r)).reverse ++ .ref (r b) :: st.map (gV r))).monitorRoom + ((st.map (gV r)).map fun v => v.category).sum ≤ 8 := lv_room (by rw [gcat]; exact hrest)
  refine gcall hC hZ hW hlo hls ?_ hZ1 hcl kk (a1 := (Value.ref (r b) :: as.map (gV r)).toArray)
  rcases hl with hl | ⟨host, hl⟩
  · exact va_runV S (hM r) ⟨⟨hrm.1, hrm.2.1, hrm.2.2.1, hrm.2.2.2, gws hW ok.1, List.mem_singleton.mpr rfl, hW.t ok.1, hW.t ok.2.1, ok.2.2.1, gsig ok.2.2.2, hW.t hl⟩, hW.t hk, hW.t hsel⟩ hp rfl (by rw [List.length_map]; exact hn) hls.1.1 rfl hrm8 d hf
  · exact va_runVN S (hM r) ⟨⟨⟨hrm.1, hrm.2.1, hrm.2.2.1, hrm.2.2.2, gws hW ok.1, List.mem_singleton.mpr rfl⟩, hW.t ok.1, hW.t ok.2.1, ok.2.2.1, gsig ok.2.2.2, va_Nw.use rfl (hW.2.1 _ hl)⟩, hW.t hk, hW.t hsel⟩ hp rfl (by rw [List.length_map]; exact hn) hls.1.1 rfl hrm8 d hf
/-- a contract for a memory that is the same -/
theorem gMet.weak {post2 : Option Value → gLy → gMe → Prop} (h : gMet l G y1 cc1 nL1 ret1 rm1 as L M Z1 post1 mc1 ms1) (hp : ∀ v L' M', post1 v L' M' → post2 v L' M') : gMet l G y1 cc1 nL1 ret1 rm1 as L M Z1 post2 mc1 ms1 := by
  intro r p e ha hc hk s m args below h1 h2 h3 h4
  obtain ⟨k, o, g1, g2, g3, g4, L9, g5, g6⟩ := h r p e ha hc hk s m args below h1 h2 h3 h4
  obtain ⟨v, L', M', r', q1, q2, q3⟩ := g4
  exact ⟨k, o, g1, g2, g3, ⟨v, L', M', r', q1, hp v L' M' q2, q3⟩, L9, g5, g6⟩
end gCalls
section gNew
variable {l : Launch} {G : gG} {y : MethodName} {cc : ByteArray} {nL : Nat} {ret : Option FieldType} {R : Room} {mc ms : Nat} {Z : Nat → Prop} {post : Option Value → gLy → gMe → Prop} {L : gLy} {M : gMe} {cells slots : Nat} {lv : List (Option Value)} {pc : Nat} {st : List Value}
theorem V_new (q a : Nat) {ci index N : Nat} {C : String} {T : u_T} {ty : Nat → FieldType} {fs : List (Option Value)} (hc : gCl ci C T N ty) (hcl : Cond.classLink y.cls index C ∈ TB) (hinst : Cond.instantiable C N ∈ TB) (hini : Cond.initialized C ∈ TB) (hfs : ∀ j, j < N → ∀ r, defaultValue (ty j) = vp_V (gF r (fun _ => 0) fs) j) (hL : L a = none) (h2 : 2 ≤ a) (hZa : ¬ Z a) (hno : gcl (fun x => x ≠ a) lv st) (hnr : ∀ b, some (Value.ref b) ∉ fs) (hcells : cells + 1 ≤ R.cells) (hslots : slots + N ≤ R.slots) (d : decode cc pc = .ok (.new index, 3)) (hq : pc + 3 = q)
    (kk : V l G y cc nL ret R mc ms Z post (va_up L a (some (.inr (ci, fs)))) (va_up M a (fun _ => 0)) (cells + 1) (slots + N) lv q (.ref a :: st)) : V l G y cc nL ret R mc ms Z post L M cells slots lv pc st := by
  subst hq
  intro p e s m args below meth c r0 r H locs ls hC hZ hW hR hlo hls
  have hKn := hW.2.2.1.1 ci _ hc.1
  refine W.newcK hC.1 hC.2.1 hC.2.2.2.2.1 (hW.t hcl) (hW.t hinst) (hW.t hini) rfl d hcells hslots hKn.2.1 rfl fun H1 kC hkC e1 z1 o1 => ?_
  have hn := hR.new (kd := .inr (ci, fs)) hL h2 ⟨_, hc.1, (u_born (ws := TB) (args := args) ty (fun w hw => hW.t hw) hc.2.1 hKn hkC e1 hc.2.2.1).to (fun j hj => hfs j hj (va_up r a H.size))⟩ (fun b hb => absurd hb (hnr b)) z1 o1
  have hre : ∀ x, x ≠ a → va_up r a H.size x = r x := fun x hx => va_up_ne _ _ hx
  have h := kk p e s m args below meth c r0 (va_up r a H.size) H1 locs ls hC (fun x hx => (hre x (fun e => hZa (e ▸ hx))).trans (hZ x hx)) hW hn hlo (hls.re (fun x hx => hre x (hno.1 x hx)))
  have hst : (Value.ref a :: st).map (gV (va_up r a H.size)) = .ref H.size :: st.map (gV r) := by
    rw [List.map_cons, gst_re (r := r) (fun x hx => hre x (hno.2 x hx))]
    simp [gV, va_up]
  rw [hst] at h
  exact h
/-- a new array of ints, booleans or longs -/
theorem V_newa (q a t : Nat) {atype : ArrayType} {n : Int32} {N : Nat} {f : Option (Option (Nat → Option Nat))} {ty : FieldType} (hta : newarray.typeOf atype = ty) (htl : (tyL G.2.1)[t]? = some (G.2.1 t, ty)) (hprim : ∀ C, ty ≠ .object C) (harr : Cond.arrayClass ty ∈ TB) (hE : ∀ r, ∃ x : vp_A, gE G.2.1 r (.inl (t, N, f)) (fun _ => 0) = .inl (G.2.1 t, x) ∧ vp_cell (G.2.1 t) x = arrV (G.2.1 t) N (fun _ => defaultValue ty)) (hfr : ∀ b, ¬ gRf (.inl (t, N, f)) b) (hn : ¬ n < 0) (hN : n.toNatClampNeg = N) (hby : N * componentBytes ty ≤ 536870912) (hL : L a = none) (h2 : 2 ≤ a) (hZa : ¬ Z a) (hno : gcl (fun x => x ≠ a) lv st) (hcells : cells + 1 ≤ R.cells) (hslots : slots + N ≤ R.slots) (d : decode cc pc = .ok (.newarray atype, 2)) (hq : pc + 2 = q)
    (kk : V l G y cc nL ret R mc ms Z post (va_up L a (some (.inl (t, N, f)))) (va_up M a (fun _ => 0)) (cells + 1) (slots + N) lv q (.ref a :: st)) : V l G y cc nL ret R mc ms Z post L M cells slots lv pc (.int n :: st) := by
  subst hq
  subst hta
  intro p e s m args below meth c r0 r H locs ls hC hZ hW hR hlo hls
  refine va_newaK hC.1 hC.2.1 (hW.t harr) rfl d rfl hn hN hby hcells hslots rfl fun H1 cA e1 z1 o1 hAr hNm => ?_
  have hcA : cA = G.2.1 t := by
    have h := (hW.2.2.1.2 t _ htl).2
    have h' : s.vm.findClass ("[" ++ (newarray.typeOf atype).toString) = some (G.2.1 t) := by
      cases atype <;> exact h
    exact Option.some.inj (hNm.symm.trans h')
  subst hcA
  obtain ⟨x, hx1, hx2⟩ := hE (va_up r a H.size)
  have hn9 := hR.new (kd := .inl (t, N, f)) hL h2 (by rw [hx1]; show H1[H.size]? = some (vp_cell _ _); rw [hx2]; exact e1) (fun b hb => absurd hb (hfr b)) z1 o1
  have hre : ∀ x, x ≠ a → va_up r a H.size x = r x := fun x hx => va_up_ne _ _ hx
  have h := kk p e s m args below meth c r0 (va_up r a H.size) H1 locs ls hC (fun x hx => (hre x (fun e => hZa (e ▸ hx))).trans (hZ x hx)) hW hn9 hlo (hls.re (fun x hx => hre x (hno.1 x hx)))
  have hst : (Value.ref a :: st).map (gV (va_up r a H.size)) = .ref H.size :: st.map (gV r) := by
    rw [List.map_cons, gst_re (r := r) (fun x hx => hre x (hno.2 x hx))]
    simp [gV, va_up]
  rw [hst] at h
  exact h
theorem V_objInit (q : Nat) {a index : Nat} (hl : Cond.methodLink y.cls index Lib.objectInit ∈ TB) (hi : Cond.instanceMethod Lib.objectInit ∈ TB) (hco : Cond.code Lib.objectInit ⟨#[0xb1]⟩ 1 none ∈ TB) (hfr : 1 ≤ R.frames) (hlc : (st.map fun v => v.category).sum + 12 ≤ R.locals) (d : decode cc pc = .ok (.invokespecial index, 3)) (hq : pc + 3 = q)
    (kk : V l G y cc nL ret R mc ms Z post L M cells slots lv q st) : V l G y cc nL ret R mc ms Z post L M cells slots lv pc (.ref a :: st) := by
  subst hq
  intro p e s m args below meth c r0 r H locs ls hC hZ hW hR hlo hls
  refine W.objInit hC.1 hC.2.1 hC.2.2.2.2.1 (hW.t hl) (hW.t hi) (hW.t hco) rfl (by rw [hC.2.2.2.1]; exact hls.1.1) rfl d hfr ?_ (kk p e s m args below meth c r0 r H locs ls hC hZ hW hR hlo hls)
  have h0 : (F0 m pc ls ((Value.ref a :: st).map (gV r))).monitorRoom = 0 := rfl
  rw [h0, gcat]
  omega
end gNew
end
section
/-- an end that is known: the answer and the memory -/
def gPo (v0 : Option Value) (L1 : gLy) (M1 : gMe) : Option Value → gLy → gMe → Prop := fun v L' M' => v = v0 ∧ L' = L1 ∧ M' = M1
def gAll : Nat → Prop := fun _ => True
def rmL (d mc ms : Nat) : Room := { frames := d, cells := mc, slots := ms, locals := 64 * d }
theorem gRm_ok {d d1 a b mc1 ms1 nL1 : Nat} (h : d1 < d) (hn : nL1 ≤ 40) : gRm (rmL d a b) (rmL d1 mc1 ms1) mc1 ms1 nL1 := ⟨rfl, rfl, h, by show 8 + (nL1 + 11) + 64 * d1 ≤ 64 * d; omega⟩
section gDet
variable {l : Launch} {G : gG} {y : MethodName} {cc : ByteArray} {nL : Nat} {ret : Option FieldType} {R : Room} {mc ms : Nat} {Z : Nat → Prop} {post : Option Value → gLy → gMe → Prop} {L L1 : gLy} {M M1 : gMe} {cells slots : Nat} {lv : List (Option Value)} {pc : Nat} {st : List Value}
variable {y1 : MethodName} {cc1 : ByteArray} {nL1 n1 : Nat} {ret1 : Option FieldType} {rm1 : Room} {as : List Value} {index : Nat} {w : Value}
theorem V_cS0 (q : Nat) {st0 : List Value} (hM : gMet l G y1 cc1 nL1 ret1 rm1 as L M gAll (gPo none L1 M1) 0 0) (ok : gOK y1 cc1 nL1 ret1 n1) (hl : gMl y.cls index y1) (hk : Cond.static y1 ∈ TB) (hrm : gRm R rm1 0 0 nL1) (hn : as.length = n1) (hs0 : st0 = as.reverse ++ st) (hrest : (st.map fun v => v.category).sum ≤ 8) (d : decode cc pc = .ok (.invokestatic index, 3)) (hf : cells ≤ R.cells ∧ slots ≤ R.slots) (hq : pc + 3 = q)
    (kk : V l G y cc nL ret R mc ms Z post L1 M1 cells slots lv q st) : V l G y cc nL ret R mc ms Z post L M cells slots lv pc st0 :=
  V_callS q hM ok hl hk hrm hn hs0 hrest d hf (fun _ _ => trivial) ⟨fun _ _ => trivial, fun _ _ => trivial⟩ hq (fun v L' M' h => by obtain ⟨rfl, rfl, rfl⟩ := h; exact kk)
theorem V_cS1 (q : Nat) {st0 : List Value} (hM : gMet l G y1 cc1 nL1 ret1 rm1 as L M gAll (gPo (some w) L1 M1) 0 0) (ok : gOK y1 cc1 nL1 ret1 n1) (hl : gMl y.cls index y1) (hk : Cond.static y1 ∈ TB) (hrm : gRm R rm1 0 0 nL1) (hn : as.length = n1) (hs0 : st0 = as.reverse ++ st) (hrest : (st.map fun v => v.category).sum ≤ 8) (d : decode cc pc = .ok (.invokestatic index, 3)) (hf : cells ≤ R.cells ∧ slots ≤ R.slots) (hq : pc + 3 = q)
    (kk : V l G y cc nL ret R mc ms Z post L1 M1 cells slots lv q (w :: st)) : V l G y cc nL ret R mc ms Z post L M cells slots lv pc st0 :=
  V_callS q hM ok hl hk hrm hn hs0 hrest d hf (fun _ _ => trivial) ⟨fun _ _ => trivial, fun _ _ => trivial⟩ hq (fun v L' M' h => by obtain ⟨rfl, rfl, rfl⟩ := h; exact kk)
theorem V_cV0 (q : Nat) {st0 : List Value} {b ci N : Nat} {T : u_T} {ty : Nat → FieldType} {fs : List (Option Value)} (hM : gMet l G y1 cc1 nL1 ret1 rm1 (.ref b :: as) L M gAll (gPo none L1 M1) 0 0) (ok : gOK y1 cc1 nL1 ret1 n1) (hl : gMl y.cls index y1) (hk : Cond.instanceMethod y1 ∈ TB) (hsel : Cond.selects y1.cls y1 y1 ∈ TB) (hL : L b = some (.inr (ci, fs))) (hc : gCl ci y1.cls T N ty) (hrm : gRm R rm1 0 0 nL1) (hn : as.length = n1) (hs0 : st0 = as.reverse ++ .ref b :: st) (hrest : (st.map fun v => v.category).sum ≤ 8) (d : decode cc pc = .ok (.invokevirtual index, 3)) (hf : cells ≤ R.cells ∧ slots ≤ R.slots) (hq : pc + 3 = q)
    (kk : V l G y cc nL ret R mc ms Z post L1 M1 cells slots lv q st) : V l G y cc nL ret R mc ms Z post L M cells slots lv pc st0 :=
  V_callV q hM ok hl hk hsel hL hc hrm hn hs0 hrest d hf (fun _ _ => trivial) ⟨fun _ _ => trivial, fun _ _ => trivial⟩ hq (fun v L' M' h => by obtain ⟨rfl, rfl, rfl⟩ := h; exact kk)
theorem V_cV1 (q : Nat) {st0 : List Value} {b ci N : Nat} {T : u_T} {ty : Nat → FieldType} {fs : List (Option Value)} (hM : gMet l G y1 cc1 nL1 ret1 rm1 (.ref b :: as) L M gAll (gPo (some w) L1 M1) 0 0) (ok : gOK y1 cc1 nL1 ret1 n1) (hl : gMl y.cls index y1) (hk : Cond.instanceMethod y1 ∈ TB) (hsel : Cond.selects y1.cls y1 y1 ∈ TB) (hL : L b = some (.inr (ci, fs))) (hc : gCl ci y1.cls T N ty) (hrm : gRm R rm1 0 0 nL1) (hn : as.length = n1) (hs0 : st0 = as.reverse ++ .ref b :: st) (hrest : (st.map fun v => v.category).sum ≤ 8) (d : decode cc pc = .ok (.invokevirtual index, 3)) (hf : cells ≤ R.cells ∧ slots ≤ R.slots) (hq : pc + 3 = q)
    (kk : V l G y cc nL ret R mc ms Z post L1 M1 cells slots lv q (w :: st)) : V l G y cc nL ret R mc ms Z post L M cells slots lv pc st0 :=
  V_callV q hM ok hl hk hsel hL hc hrm hn hs0 hrest d hf (fun _ _ => trivial) ⟨fun _ _ => trivial, fun _ _ => trivial⟩ hq (fun v L' M' h => by obtain ⟨rfl, rfl, rfl⟩ := h; exact kk)
end gDet
end
section
theorem kc_AL : gCl 0 "java/util/ArrayList" T_AL 3 t_AL := by
  refine ⟨rfl, ?_, by decide +kernel, by decide +kernel⟩
  intro w hw
  obtain ⟨k, hk, rfl⟩ := List.mem_map.mp hw
  have hk := List.mem_range.mp hk
  rcases (show k = 0 ∨ k = 1 ∨ k = 2 by omega) with rfl | rfl | rfl
  · exact tb1 60 rfl rfl
  · exact tb1 62 rfl rfl
  · exact tb1 64 rfl rfl
theorem kc_Lg : gCl 1 "ProofGate$AuditLog" T_Lg 2 t_Lg := by
  refine ⟨rfl, ?_, by decide +kernel, by decide +kernel⟩
  intro w hw
  obtain ⟨k, hk, rfl⟩ := List.mem_map.mp hw
  have hk := List.mem_range.mp hk
  rcases (show k = 0 ∨ k = 1 by omega) with rfl | rfl
  · exact tb1 182 rfl rfl
  · exact tb1 184 rfl rfl
theorem kc_Ck : gCl 2 "ProofGate$Checker" T_Ck 2 t_Ck := by
  refine ⟨rfl, ?_, by decide +kernel, by decide +kernel⟩
  intro w hw
  obtain ⟨k, hk, rfl⟩ := List.mem_map.mp hw
  have hk := List.mem_range.mp hk
  rcases (show k = 0 ∨ k = 1 by omega) with rfl | rfl
  · exact tb1 169 rfl rfl
  · exact tb1 171 rfl rfl
theorem kc_Cr : gCl 3 "ProofGate$Credential" T_Cr 6 t_Cr := by
  refine ⟨rfl, ?_, by decide +kernel, by decide +kernel⟩
  intro w hw
  obtain ⟨k, hk, rfl⟩ := List.mem_map.mp hw
  have hk := List.mem_range.mp hk
  rcases (show k = 0 ∨ k = 1 ∨ k = 2 ∨ k = 3 ∨ k = 4 ∨ k = 5 by omega) with rfl | rfl | rfl | rfl | rfl | rfl
  · exact tb2 26 rfl rfl
  · exact tb2 28 rfl rfl
  · exact tb2 30 rfl rfl
  · exact tb2 32 rfl rfl
  · exact tb2 34 rfl rfl
  · exact tb2 36 rfl rfl
theorem kc_Cs : gCl 4 "ProofGate$Credentials" T_Cs 2 t_Cs := by
  refine ⟨rfl, ?_, by decide +kernel, by decide +kernel⟩
  intro w hw
  obtain ⟨k, hk, rfl⟩ := List.mem_map.mp hw
  have hk := List.mem_range.mp hk
  rcases (show k = 0 ∨ k = 1 by omega) with rfl | rfl
  · exact tb1 70 rfl rfl
  · exact tb1 72 rfl rfl
theorem kc_Fa : gCl 5 "ProofGate$Fact" T_Fa 6 t_Fa := by
  refine ⟨rfl, ?_, by decide +kernel, by decide +kernel⟩
  intro w hw
  obtain ⟨k, hk, rfl⟩ := List.mem_map.mp hw
  have hk := List.mem_range.mp hk
  rcases (show k = 0 ∨ k = 1 ∨ k = 2 ∨ k = 3 ∨ k = 4 ∨ k = 5 by omega) with rfl | rfl | rfl | rfl | rfl | rfl
  · exact tb1 154 rfl rfl
  · exact tb1 156 rfl rfl
  · exact tb1 158 rfl rfl
  · exact tb1 160 rfl rfl
  · exact tb1 162 rfl rfl
  · exact tb1 164 rfl rfl
theorem kc_Fu : gCl 6 "ProofGate$Fuse" T_Fu 1 t_Fu := by
  refine ⟨rfl, ?_, by decide +kernel, by decide +kernel⟩
  intro w hw
  obtain ⟨k, hk, rfl⟩ := List.mem_map.mp hw
  have hk := List.mem_range.mp hk
  rcases (show k = 0 by omega) with rfl
  · exact tb1 194 rfl rfl
theorem kc_Pf : gCl 7 "ProofGate$Proof" T_Pf 4 t_Pf := by
  refine ⟨rfl, ?_, by decide +kernel, by decide +kernel⟩
  intro w hw
  obtain ⟨k, hk, rfl⟩ := List.mem_map.mp hw
  have hk := List.mem_range.mp hk
  rcases (show k = 0 ∨ k = 1 ∨ k = 2 ∨ k = 3 by omega) with rfl | rfl | rfl | rfl
  · exact tb1 85 rfl rfl
  · exact tb1 87 rfl rfl
  · exact tb1 89 rfl rfl
  · exact tb1 91 rfl rfl
theorem kc_Pv : gCl 8 "ProofGate$Prover" T_Pv 9 t_Pv := by
  refine ⟨rfl, ?_, by decide +kernel, by decide +kernel⟩
  intro w hw
  obtain ⟨k, hk, rfl⟩ := List.mem_map.mp hw
  have hk := List.mem_range.mp hk
  rcases (show k = 0 ∨ k = 1 ∨ k = 2 ∨ k = 3 ∨ k = 4 ∨ k = 5 ∨ k = 6 ∨ k = 7 ∨ k = 8 by omega) with rfl | rfl | rfl | rfl | rfl | rfl | rfl | rfl | rfl
  · exact tb1 111 rfl rfl
  · exact tb1 113 rfl rfl
  · exact tb1 115 rfl rfl
  · exact tb1 117 rfl rfl
  · exact tb1 119 rfl rfl
  · exact tb1 121 rfl rfl
  · exact tb1 123 rfl rfl
  · exact tb1 125 rfl rfl
  · exact tb1 127 rfl rfl
theorem kc_Ga : gCl 9 "ProofGate" T_Ga 10 t_Ga := by
  refine ⟨rfl, ?_, by decide +kernel, by decide +kernel⟩
  intro w hw
  obtain ⟨k, hk, rfl⟩ := List.mem_map.mp hw
  have hk := List.mem_range.mp hk
  rcases (show k = 0 ∨ k = 1 ∨ k = 2 ∨ k = 3 ∨ k = 4 ∨ k = 5 ∨ k = 6 ∨ k = 7 ∨ k = 8 ∨ k = 9 by omega) with rfl | rfl | rfl | rfl | rfl | rfl | rfl | rfl | rfl | rfl
  · exact tb1 210 rfl rfl
  · exact tb1 212 rfl rfl
  · exact tb1 214 rfl rfl
  · exact tb1 216 rfl rfl
  · exact tb1 218 rfl rfl
  · exact tb1 220 rfl rfl
  · exact tb1 222 rfl rfl
  · exact tb1 224 rfl rfl
  · exact tb1 226 rfl rfl
  · exact tb1 228 rfl rfl
theorem kc_Mo : gCl 10 "ProofGateModel" T_Mo 38 t_Mo := by
  refine ⟨rfl, ?_, by decide +kernel, by decide +kernel⟩
  intro w hw
  obtain ⟨k, hk, rfl⟩ := List.mem_map.mp hw
  have hk := List.mem_range.mp hk
  rcases (show k = 0 ∨ k = 1 ∨ k = 2 ∨ k = 3 ∨ k = 4 ∨ k = 5 ∨ k = 6 ∨ k = 7 ∨ k = 8 ∨ k = 9 ∨ k = 10 ∨ k = 11 ∨ k = 12 ∨ k = 13 ∨ k = 14 ∨ k = 15 ∨ k = 16 ∨ k = 17 ∨ k = 18 ∨ k = 19 ∨ k = 20 ∨ k = 21 ∨ k = 22 ∨ k = 23 ∨ k = 24 ∨ k = 25 ∨ k = 26 ∨ k = 27 ∨ k = 28 ∨ k = 29 ∨ k = 30 ∨ k = 31 ∨ k = 32 ∨ k = 33 ∨ k = 34 ∨ k = 35 ∨ k = 36 ∨ k = 37 by omega) with rfl | rfl | rfl | rfl | rfl | rfl | rfl | rfl | rfl | rfl | rfl | rfl | rfl | rfl | rfl | rfl | rfl | rfl | rfl | rfl | rfl | rfl | rfl | rfl | rfl | rfl | rfl | rfl | rfl | rfl | rfl | rfl | rfl | rfl | rfl | rfl | rfl | rfl
  · exact tb4 151 rfl rfl
  · exact tb4 153 rfl rfl
  · exact tb4 155 rfl rfl
  · exact tb4 157 rfl rfl
  · exact tb4 159 rfl rfl
  · exact tb4 161 rfl rfl
  · exact tb4 163 rfl rfl
  · exact tb4 165 rfl rfl
  · exact tb4 167 rfl rfl
  · exact tb4 169 rfl rfl
  · exact tb4 171 rfl rfl
  · exact tb4 173 rfl rfl
  · exact tb4 175 rfl rfl
  · exact tb4 177 rfl rfl
  · exact tb4 179 rfl rfl
  · exact tb4 181 rfl rfl
  · exact tb4 183 rfl rfl
  · exact tb4 185 rfl rfl
  · exact tb4 187 rfl rfl
  · exact tb4 189 rfl rfl
  · exact tb4 191 rfl rfl
  · exact tb4 193 rfl rfl
  · exact tb4 195 rfl rfl
  · exact tb4 197 rfl rfl
  · exact tb4 199 rfl rfl
  · exact tb4 201 rfl rfl
  · exact tb4 203 rfl rfl
  · exact tb4 205 rfl rfl
  · exact tb4 207 rfl rfl
  · exact tb4 209 rfl rfl
  · exact tb4 211 rfl rfl
  · exact tb4 213 rfl rfl
  · exact tb4 215 rfl rfl
  · exact tb4 217 rfl rfl
  · exact tb4 219 rfl rfl
  · exact tb4 221 rfl rfl
  · exact tb4 223 rfl rfl
  · exact tb4 225 rfl rfl
theorem ok_Ga_init : gOK y_Ga_init b_Ga_init 2 none 1 := ⟨tb1 31 rfl rfl, tb1 1 rfl rfl, ⟨by decide +kernel, by decide +kernel⟩, by decide +kernel⟩
theorem im_Ga_init : Cond.instanceMethod y_Ga_init ∈ TB := tb1 30 rfl rfl
theorem ok_Cs_init : gOK y_Cs_init b_Cs_init 1 none 0 := ⟨tb1 39 rfl rfl, tb1 2 rfl rfl, ⟨by decide +kernel, by decide +kernel⟩, by decide +kernel⟩
theorem im_Cs_init : Cond.instanceMethod y_Cs_init ∈ TB := tb1 38 rfl rfl
theorem ok_AL_init : gOK y_AL_init b_AL_init 1 none 0 := ⟨tb1 45 rfl rfl, tb1 5 rfl rfl, ⟨by decide +kernel, by decide +kernel⟩, by decide +kernel⟩
theorem im_AL_init : Cond.instanceMethod y_AL_init ∈ TB := tb1 44 rfl rfl
theorem ok_Ab_init : gOK y_Ab_init b_Ab_init 1 none 0 := ⟨tb1 48 rfl rfl, tb1 4 rfl rfl, ⟨by decide +kernel, by decide +kernel⟩, by decide +kernel⟩
theorem im_Ab_init : Cond.instanceMethod y_Ab_init ∈ TB := tb1 47 rfl rfl
theorem ok_Ac_init : gOK y_Ac_init b_Ac_init 1 none 0 := ⟨tb1 51 rfl rfl, tb1 3 rfl rfl, ⟨by decide +kernel, by decide +kernel⟩, by decide +kernel⟩
theorem im_Ac_init : Cond.instanceMethod y_Ac_init ∈ TB := tb1 50 rfl rfl
theorem ok_Pf_init : gOK y_Pf_init b_Pf_init 1 none 0 := ⟨tb1 79 rfl rfl, tb1 6 rfl rfl, ⟨by decide +kernel, by decide +kernel⟩, by decide +kernel⟩
theorem im_Pf_init : Cond.instanceMethod y_Pf_init ∈ TB := tb1 78 rfl rfl
theorem ok_Pv_init : gOK y_Pv_init b_Pv_init 2 none 1 := ⟨tb1 98 rfl rfl, tb1 7 rfl rfl, ⟨by decide +kernel, by decide +kernel⟩, by decide +kernel⟩
theorem im_Pv_init : Cond.instanceMethod y_Pv_init ∈ TB := tb1 97 rfl rfl
theorem ok_Ck_init : gOK y_Ck_init b_Ck_init 3 none 1 := ⟨tb1 134 rfl rfl, tb1 8 rfl rfl, ⟨by decide +kernel, by decide +kernel⟩, by decide +kernel⟩
theorem im_Ck_init : Cond.instanceMethod y_Ck_init ∈ TB := tb1 133 rfl rfl
theorem ok_Fa_init : gOK y_Fa_init b_Fa_init 1 none 0 := ⟨tb1 141 rfl rfl, tb1 9 rfl rfl, ⟨by decide +kernel, by decide +kernel⟩, by decide +kernel⟩
theorem im_Fa_init : Cond.instanceMethod y_Fa_init ∈ TB := tb1 140 rfl rfl
theorem ok_Lg_init : gOK y_Lg_init b_Lg_init 1 none 0 := ⟨tb1 178 rfl rfl, tb1 10 rfl rfl, ⟨by decide +kernel, by decide +kernel⟩, by decide +kernel⟩
theorem im_Lg_init : Cond.instanceMethod y_Lg_init ∈ TB := tb1 177 rfl rfl
theorem ok_Fu_init : gOK y_Fu_init b_Fu_init 1 none 0 := ⟨tb1 191 rfl rfl, tb1 11 rfl rfl, ⟨by decide +kernel, by decide +kernel⟩, by decide +kernel⟩
theorem im_Fu_init : Cond.instanceMethod y_Fu_init ∈ TB := tb1 190 rfl rfl
theorem ok_Ar_fill : gOK y_Ar_fill b_Ar_fill 4 none 2 := ⟨tb1 199 rfl rfl, tb1 12 rfl rfl, ⟨by decide +kernel, by decide +kernel⟩, by decide +kernel⟩
theorem st_Ar_fill : Cond.static y_Ar_fill ∈ TB := tb1 198 rfl rfl
theorem ok_Ga_seal : gOK y_Ga_seal b_Ga_seal 10 (some FieldType.int) 8 := ⟨tb1 234 rfl rfl, tb1 1 rfl rfl, ⟨by decide +kernel, by decide +kernel⟩, by decide +kernel⟩
theorem im_Ga_seal : Cond.instanceMethod y_Ga_seal ∈ TB := tb1 232 rfl rfl
theorem se_Ga_seal : Cond.selects "ProofGate" y_Ga_seal y_Ga_seal ∈ TB := tb1 233 rfl rfl
theorem ok_Cr_init : gOK y_Cr_init b_Cr_init 7 none 5 := ⟨tb1 239 rfl rfl, tb1 14 rfl rfl, ⟨by decide +kernel, by decide +kernel⟩, by decide +kernel⟩
theorem im_Cr_init : Cond.instanceMethod y_Cr_init ∈ TB := tb1 238 rfl rfl
theorem ok_Cr_isKind : gOK y_Cr_isKind b_Cr_isKind 1 (some FieldType.boolean) 1 := ⟨tb2 3 rfl rfl, tb1 14 rfl rfl, ⟨by decide +kernel, by decide +kernel⟩, by decide +kernel⟩
theorem st_Cr_isKind : Cond.static y_Cr_isKind ∈ TB := tb2 2 rfl rfl
theorem ok_Cr_limit : gOK y_Cr_limit b_Cr_limit 2 (some FieldType.int) 2 := ⟨tb2 6 rfl rfl, tb1 14 rfl rfl, ⟨by decide +kernel, by decide +kernel⟩, by decide +kernel⟩
theorem st_Cr_limit : Cond.static y_Cr_limit ∈ TB := tb2 5 rfl rfl
theorem ok_Ga_sealOf : gOK y_Ga_sealOf b_Ga_sealOf 3 (some FieldType.int) 1 := ⟨tb2 42 rfl rfl, tb1 1 rfl rfl, ⟨by decide +kernel, by decide +kernel⟩, by decide +kernel⟩
theorem im_Ga_sealOf : Cond.instanceMethod y_Ga_sealOf ∈ TB := tb2 41 rfl rfl
theorem se_Ga_sealOf : Cond.selects "ProofGate" y_Ga_sealOf y_Ga_sealOf ∈ TB := sp1 (q := (y_Ga_sealOf, 10)) 0 rfl
theorem ok_Cr_mark : gOK y_Cr_mark b_Cr_mark 3 (some FieldType.int) 0 := ⟨tb2 46 rfl rfl, tb1 14 rfl rfl, ⟨by decide +kernel, by decide +kernel⟩, by decide +kernel⟩
theorem im_Cr_mark : Cond.instanceMethod y_Cr_mark ∈ TB := tb2 45 rfl rfl
theorem se_Cr_mark : Cond.selects "ProofGate$Credential" y_Cr_mark y_Cr_mark ∈ TB := sp1 (q := (y_Cr_mark, 6)) 1 rfl
theorem ok_Cr_mix : gOK y_Cr_mix b_Cr_mix 3 (some FieldType.int) 2 := ⟨tb2 49 rfl rfl, tb1 14 rfl rfl, ⟨by decide +kernel, by decide +kernel⟩, by decide +kernel⟩
theorem st_Cr_mix : Cond.static y_Cr_mix ∈ TB := tb2 48 rfl rfl
theorem ok_Ga_set : gOK y_Ga_set b_Ga_set 5 none 4 := ⟨tb2 55 rfl rfl, tb1 1 rfl rfl, ⟨by decide +kernel, by decide +kernel⟩, by decide +kernel⟩
theorem im_Ga_set : Cond.instanceMethod y_Ga_set ∈ TB := tb2 53 rfl rfl
theorem se_Ga_set : Cond.selects "ProofGate" y_Ga_set y_Ga_set ∈ TB := tb2 54 rfl rfl
theorem ok_Ga_pass : gOK y_Ga_pass b_Ga_pass 2 (some FieldType.int) 1 := ⟨tb2 59 rfl rfl, tb1 1 rfl rfl, ⟨by decide +kernel, by decide +kernel⟩, by decide +kernel⟩
theorem im_Ga_pass : Cond.instanceMethod y_Ga_pass ∈ TB := tb2 57 rfl rfl
theorem se_Ga_pass : Cond.selects "ProofGate" y_Ga_pass y_Ga_pass ∈ TB := tb2 58 rfl rfl
theorem ok_Cs_letTimeGoOn : gOK y_Cs_letTimeGoOn b_Cs_letTimeGoOn 2 (some FieldType.int) 1 := ⟨tb2 63 rfl rfl, tb1 2 rfl rfl, ⟨by decide +kernel, by decide +kernel⟩, by decide +kernel⟩
theorem im_Cs_letTimeGoOn : Cond.instanceMethod y_Cs_letTimeGoOn ∈ TB := tb2 62 rfl rfl
theorem se_Cs_letTimeGoOn : Cond.selects "ProofGate$Credentials" y_Cs_letTimeGoOn y_Cs_letTimeGoOn ∈ TB := sp1 (q := (y_Cs_letTimeGoOn, 2)) 2 rfl
theorem ok_Ga_step : gOK y_Ga_step b_Ga_step 4 (some FieldType.int) 3 := ⟨tb2 67 rfl rfl, tb1 1 rfl rfl, ⟨by decide +kernel, by decide +kernel⟩, by decide +kernel⟩
theorem im_Ga_step : Cond.instanceMethod y_Ga_step ∈ TB := tb2 65 rfl rfl
theorem se_Ga_step : Cond.selects "ProofGate" y_Ga_step y_Ga_step ∈ TB := tb2 66 rfl rfl
theorem ok_Pf_append : gOK y_Pf_append b_Pf_append 4 (some FieldType.int) 3 := ⟨tb2 71 rfl rfl, tb1 6 rfl rfl, ⟨by decide +kernel, by decide +kernel⟩, by decide +kernel⟩
theorem im_Pf_append : Cond.instanceMethod y_Pf_append ∈ TB := tb2 70 rfl rfl
theorem se_Pf_append : Cond.selects "ProofGate$Proof" y_Pf_append y_Pf_append ∈ TB := sp1 (q := (y_Pf_append, 4)) 3 rfl
theorem ok_Ga_clear : gOK y_Ga_clear b_Ga_clear 1 (some FieldType.int) 0 := ⟨tb2 75 rfl rfl, tb1 1 rfl rfl, ⟨by decide +kernel, by decide +kernel⟩, by decide +kernel⟩
theorem im_Ga_clear : Cond.instanceMethod y_Ga_clear ∈ TB := tb2 73 rfl rfl
theorem se_Ga_clear : Cond.selects "ProofGate" y_Ga_clear y_Ga_clear ∈ TB := tb2 74 rfl rfl
theorem ok_Pf_makeEmpty : gOK y_Pf_makeEmpty b_Pf_makeEmpty 2 (some FieldType.int) 0 := ⟨tb2 79 rfl rfl, tb1 6 rfl rfl, ⟨by decide +kernel, by decide +kernel⟩, by decide +kernel⟩
theorem im_Pf_makeEmpty : Cond.instanceMethod y_Pf_makeEmpty ∈ TB := tb2 78 rfl rfl
theorem se_Pf_makeEmpty : Cond.selects "ProofGate$Proof" y_Pf_makeEmpty y_Pf_makeEmpty ∈ TB := sp1 (q := (y_Pf_makeEmpty, 4)) 4 rfl
theorem ok_Ga_steps : gOK y_Ga_steps b_Ga_steps 1 (some FieldType.int) 0 := ⟨tb2 83 rfl rfl, tb1 1 rfl rfl, ⟨by decide +kernel, by decide +kernel⟩, by decide +kernel⟩
theorem im_Ga_steps : Cond.instanceMethod y_Ga_steps ∈ TB := tb2 81 rfl rfl
theorem se_Ga_steps : Cond.selects "ProofGate" y_Ga_steps y_Ga_steps ∈ TB := tb2 82 rfl rfl
theorem ok_Pf_length : gOK y_Pf_length b_Pf_length 1 (some FieldType.int) 0 := ⟨tb2 87 rfl rfl, tb1 6 rfl rfl, ⟨by decide +kernel, by decide +kernel⟩, by decide +kernel⟩
theorem im_Pf_length : Cond.instanceMethod y_Pf_length ∈ TB := tb2 86 rfl rfl
theorem se_Pf_length : Cond.selects "ProofGate$Proof" y_Pf_length y_Pf_length ∈ TB := sp1 (q := (y_Pf_length, 4)) 5 rfl
theorem ok_Ga_stepAt : gOK y_Ga_stepAt b_Ga_stepAt 3 (some FieldType.int) 2 := ⟨tb2 91 rfl rfl, tb1 1 rfl rfl, ⟨by decide +kernel, by decide +kernel⟩, by decide +kernel⟩
theorem im_Ga_stepAt : Cond.instanceMethod y_Ga_stepAt ∈ TB := tb2 89 rfl rfl
theorem se_Ga_stepAt : Cond.selects "ProofGate" y_Ga_stepAt y_Ga_stepAt ∈ TB := tb2 90 rfl rfl
theorem ok_Pf_hasStep : gOK y_Pf_hasStep b_Pf_hasStep 2 (some FieldType.boolean) 1 := ⟨tb2 95 rfl rfl, tb1 6 rfl rfl, ⟨by decide +kernel, by decide +kernel⟩, by decide +kernel⟩
theorem im_Pf_hasStep : Cond.instanceMethod y_Pf_hasStep ∈ TB := tb2 94 rfl rfl
theorem se_Pf_hasStep : Cond.selects "ProofGate$Proof" y_Pf_hasStep y_Pf_hasStep ∈ TB := sp1 (q := (y_Pf_hasStep, 4)) 6 rfl
theorem ok_Pf_ruleAt : gOK y_Pf_ruleAt b_Pf_ruleAt 2 (some FieldType.int) 1 := ⟨tb2 99 rfl rfl, tb1 6 rfl rfl, ⟨by decide +kernel, by decide +kernel⟩, by decide +kernel⟩
theorem im_Pf_ruleAt : Cond.instanceMethod y_Pf_ruleAt ∈ TB := tb2 98 rfl rfl
theorem se_Pf_ruleAt : Cond.selects "ProofGate$Proof" y_Pf_ruleAt y_Pf_ruleAt ∈ TB := sp1 (q := (y_Pf_ruleAt, 4)) 7 rfl
theorem ok_Pf_xAt : gOK y_Pf_xAt b_Pf_xAt 2 (some FieldType.int) 1 := ⟨tb2 103 rfl rfl, tb1 6 rfl rfl, ⟨by decide +kernel, by decide +kernel⟩, by decide +kernel⟩
theorem im_Pf_xAt : Cond.instanceMethod y_Pf_xAt ∈ TB := tb2 102 rfl rfl
theorem se_Pf_xAt : Cond.selects "ProofGate$Proof" y_Pf_xAt y_Pf_xAt ∈ TB := sp1 (q := (y_Pf_xAt, 4)) 8 rfl
theorem ok_Pf_yAt : gOK y_Pf_yAt b_Pf_yAt 2 (some FieldType.int) 1 := ⟨tb2 107 rfl rfl, tb1 6 rfl rfl, ⟨by decide +kernel, by decide +kernel⟩, by decide +kernel⟩
theorem im_Pf_yAt : Cond.instanceMethod y_Pf_yAt ∈ TB := tb2 106 rfl rfl
theorem se_Pf_yAt : Cond.selects "ProofGate$Proof" y_Pf_yAt y_Pf_yAt ∈ TB := sp1 (q := (y_Pf_yAt, 4)) 9 rfl
theorem ok_Ga_prove : gOK y_Ga_prove b_Ga_prove 5 (some FieldType.int) 3 := ⟨tb2 111 rfl rfl, tb1 1 rfl rfl, ⟨by decide +kernel, by decide +kernel⟩, by decide +kernel⟩
theorem im_Ga_prove : Cond.instanceMethod y_Ga_prove ∈ TB := tb2 109 rfl rfl
theorem se_Ga_prove : Cond.selects "ProofGate" y_Ga_prove y_Ga_prove ∈ TB := tb2 110 rfl rfl
theorem ok_Ga_isNamed : gOK y_Ga_isNamed b_Ga_isNamed 3 (some FieldType.boolean) 3 := ⟨tb2 114 rfl rfl, tb1 1 rfl rfl, ⟨by decide +kernel, by decide +kernel⟩, by decide +kernel⟩
theorem st_Ga_isNamed : Cond.static y_Ga_isNamed ∈ TB := tb2 113 rfl rfl
theorem ok_Ga_isPrincipal : gOK y_Ga_isPrincipal b_Ga_isPrincipal 1 (some FieldType.boolean) 1 := ⟨tb2 117 rfl rfl, tb1 1 rfl rfl, ⟨by decide +kernel, by decide +kernel⟩, by decide +kernel⟩
theorem st_Ga_isPrincipal : Cond.static y_Ga_isPrincipal ∈ TB := tb2 116 rfl rfl
theorem ok_Ga_isObject : gOK y_Ga_isObject b_Ga_isObject 1 (some FieldType.boolean) 1 := ⟨tb2 120 rfl rfl, tb1 1 rfl rfl, ⟨by decide +kernel, by decide +kernel⟩, by decide +kernel⟩
theorem st_Ga_isObject : Cond.static y_Ga_isObject ∈ TB := tb2 119 rfl rfl
theorem ok_Ga_isOpenTo : gOK y_Ga_isOpenTo b_Ga_isOpenTo 3 (some FieldType.boolean) 2 := ⟨tb2 124 rfl rfl, tb1 1 rfl rfl, ⟨by decide +kernel, by decide +kernel⟩, by decide +kernel⟩
theorem im_Ga_isOpenTo : Cond.instanceMethod y_Ga_isOpenTo ∈ TB := tb2 123 rfl rfl
theorem se_Ga_isOpenTo : Cond.selects "ProofGate" y_Ga_isOpenTo y_Ga_isOpenTo ∈ TB := sp1 (q := (y_Ga_isOpenTo, 10)) 10 rfl
theorem ok_Ga_sayerOfGoal : gOK y_Ga_sayerOfGoal b_Ga_sayerOfGoal 3 (some FieldType.int) 2 := ⟨tb2 128 rfl rfl, tb1 1 rfl rfl, ⟨by decide +kernel, by decide +kernel⟩, by decide +kernel⟩
theorem im_Ga_sayerOfGoal : Cond.instanceMethod y_Ga_sayerOfGoal ∈ TB := tb2 127 rfl rfl
theorem se_Ga_sayerOfGoal : Cond.selects "ProofGate" y_Ga_sayerOfGoal y_Ga_sayerOfGoal ∈ TB := sp1 (q := (y_Ga_sayerOfGoal, 10)) 11 rfl
theorem ok_Pv_writeProof : gOK y_Pv_writeProof b_Pv_writeProof 6 (some FieldType.int) 4 := ⟨tb2 132 rfl rfl, tb1 7 rfl rfl, ⟨by decide +kernel, by decide +kernel⟩, by decide +kernel⟩
theorem im_Pv_writeProof : Cond.instanceMethod y_Pv_writeProof ∈ TB := tb2 131 rfl rfl
theorem se_Pv_writeProof : Cond.selects "ProofGate$Prover" y_Pv_writeProof y_Pv_writeProof ∈ TB := sp1 (q := (y_Pv_writeProof, 9)) 12 rfl
theorem ok_Pv_may : gOK y_Pv_may b_Pv_may 3 (some FieldType.int) 3 := ⟨tb2 135 rfl rfl, tb1 7 rfl rfl, ⟨by decide +kernel, by decide +kernel⟩, by decide +kernel⟩
theorem st_Pv_may : Cond.static y_Pv_may ∈ TB := tb2 134 rfl rfl
theorem ok_Pv_finds : gOK y_Pv_finds b_Pv_finds 3 (some FieldType.boolean) 2 := ⟨tb2 139 rfl rfl, tb1 7 rfl rfl, ⟨by decide +kernel, by decide +kernel⟩, by decide +kernel⟩
theorem im_Pv_finds : Cond.instanceMethod y_Pv_finds ∈ TB := tb2 138 rfl rfl
theorem se_Pv_finds : Cond.selects "ProofGate$Prover" y_Pv_finds y_Pv_finds ∈ TB := sp1 (q := (y_Pv_finds, 9)) 13 rfl
theorem ok_Pv_findWhatIsSaid : gOK y_Pv_findWhatIsSaid b_Pv_findWhatIsSaid 5 none 1 := ⟨tb2 144 rfl rfl, tb1 7 rfl rfl, ⟨by decide +kernel, by decide +kernel⟩, by decide +kernel⟩
theorem im_Pv_findWhatIsSaid : Cond.instanceMethod y_Pv_findWhatIsSaid ∈ TB := tb2 143 rfl rfl
theorem se_Pv_findWhatIsSaid : Cond.selects "ProofGate$Prover" y_Pv_findWhatIsSaid y_Pv_findWhatIsSaid ∈ TB := sp1 (q := (y_Pv_findWhatIsSaid, 9)) 14 rfl
theorem ok_Cs_count : gOK y_Cs_count b_Cs_count 1 (some FieldType.int) 0 := ⟨tb2 148 rfl rfl, tb1 2 rfl rfl, ⟨by decide +kernel, by decide +kernel⟩, by decide +kernel⟩
theorem im_Cs_count : Cond.instanceMethod y_Cs_count ∈ TB := tb2 147 rfl rfl
theorem se_Cs_count : Cond.selects "ProofGate$Credentials" y_Cs_count y_Cs_count ∈ TB := sp1 (q := (y_Cs_count, 2)) 15 rfl
theorem ok_AL_size : gOK y_AL_size b_AL_size 1 (some FieldType.int) 0 := ⟨tb2 152 rfl rfl, tb1 5 rfl rfl, ⟨by decide +kernel, by decide +kernel⟩, by decide +kernel⟩
theorem im_AL_size : Cond.instanceMethod y_AL_size ∈ TB := tb2 150 rfl rfl
theorem se_AL_size : Cond.selects "java/util/ArrayList" y_AL_size y_AL_size ∈ TB := tb2 151 rfl rfl
theorem ok_Cs_findValid : gOK y_Cs_findValid b_Cs_findValid 3 (some (FieldType.object "ProofGate$Credential")) 1 := ⟨tb2 156 rfl rfl, tb1 2 rfl rfl, ⟨by decide +kernel, by decide +kernel⟩, by decide +kernel⟩
theorem im_Cs_findValid : Cond.instanceMethod y_Cs_findValid ∈ TB := tb2 155 rfl rfl
theorem se_Cs_findValid : Cond.selects "ProofGate$Credentials" y_Cs_findValid y_Cs_findValid ∈ TB := sp2 (q := (y_Cs_findValid, 2)) 0 rfl
theorem ok_Cs_find : gOK y_Cs_find b_Cs_find 2 (some (FieldType.object "ProofGate$Credential")) 1 := ⟨tb2 160 rfl rfl, tb1 2 rfl rfl, ⟨by decide +kernel, by decide +kernel⟩, by decide +kernel⟩
theorem im_Cs_find : Cond.instanceMethod y_Cs_find ∈ TB := tb2 159 rfl rfl
theorem se_Cs_find : Cond.selects "ProofGate$Credentials" y_Cs_find y_Cs_find ∈ TB := sp2 (q := (y_Cs_find, 2)) 1 rfl
theorem ok_AL_get : gOK y_AL_get b_AL_get 2 (some (FieldType.object "java/lang/Object")) 1 := ⟨tb2 164 rfl rfl, tb1 5 rfl rfl, ⟨by decide +kernel, by decide +kernel⟩, by decide +kernel⟩
theorem im_AL_get : Cond.instanceMethod y_AL_get ∈ TB := tb2 162 rfl rfl
theorem se_AL_get : Cond.selects "java/util/ArrayList" y_AL_get y_AL_get ∈ TB := tb2 163 rfl rfl
theorem ok_Ob_checkIndex : gOK y_Ob_checkIndex b_Ob_checkIndex 2 (some FieldType.int) 2 := ⟨tb2 167 rfl rfl, tb1 24 rfl rfl, ⟨by decide +kernel, by decide +kernel⟩, by decide +kernel⟩
theorem st_Ob_checkIndex : Cond.static y_Ob_checkIndex ∈ TB := tb2 166 rfl rfl
theorem ok_Pr_checkIndex : gOK y_Pr_checkIndex b_Pr_checkIndex 3 (some FieldType.int) 3 := ⟨tb2 170 rfl rfl, tb1 25 rfl rfl, ⟨by decide +kernel, by decide +kernel⟩, by decide +kernel⟩
theorem st_Pr_checkIndex : Cond.static y_Pr_checkIndex ∈ TB := tb2 169 rfl rfl
theorem ok_AL_elementData : gOK y_AL_elementData b_AL_elementData 2 (some (FieldType.object "java/lang/Object")) 1 := ⟨tb2 174 rfl rfl, tb1 5 rfl rfl, ⟨by decide +kernel, by decide +kernel⟩, by decide +kernel⟩
theorem im_AL_elementData : Cond.instanceMethod y_AL_elementData ∈ TB := tb2 172 rfl rfl
theorem se_AL_elementData : Cond.selects "java/util/ArrayList" y_AL_elementData y_AL_elementData ∈ TB := tb2 173 rfl rfl
theorem ok_Cr_isValidAt : gOK y_Cr_isValidAt b_Cr_isValidAt 2 (some FieldType.boolean) 1 := ⟨tb2 179 rfl rfl, tb1 14 rfl rfl, ⟨by decide +kernel, by decide +kernel⟩, by decide +kernel⟩
theorem im_Cr_isValidAt : Cond.instanceMethod y_Cr_isValidAt ∈ TB := tb2 178 rfl rfl
theorem se_Cr_isValidAt : Cond.selects "ProofGate$Credential" y_Cr_isValidAt y_Cr_isValidAt ∈ TB := sp2 (q := (y_Cr_isValidAt, 6)) 2 rfl
theorem ok_Pv_factSaidBy : gOK y_Pv_factSaidBy b_Pv_factSaidBy 3 (some FieldType.int) 2 := ⟨tb2 182 rfl rfl, tb1 7 rfl rfl, ⟨by decide +kernel, by decide +kernel⟩, by decide +kernel⟩
theorem st_Pv_factSaidBy : Cond.static y_Pv_factSaidBy ∈ TB := tb2 181 rfl rfl
theorem ok_Pv_speaks : gOK y_Pv_speaks b_Pv_speaks 2 (some FieldType.int) 2 := ⟨tb2 185 rfl rfl, tb1 7 rfl rfl, ⟨by decide +kernel, by decide +kernel⟩, by decide +kernel⟩
theorem st_Pv_speaks : Cond.static y_Pv_speaks ∈ TB := tb2 184 rfl rfl
theorem ok_Pv_trusts : gOK y_Pv_trusts b_Pv_trusts 4 (some FieldType.int) 4 := ⟨tb2 188 rfl rfl, tb1 7 rfl rfl, ⟨by decide +kernel, by decide +kernel⟩, by decide +kernel⟩
theorem st_Pv_trusts : Cond.static y_Pv_trusts ∈ TB := tb2 187 rfl rfl
theorem ok_Pv_reach : gOK y_Pv_reach b_Pv_reach 5 none 4 := ⟨tb2 192 rfl rfl, tb1 7 rfl rfl, ⟨by decide +kernel, by decide +kernel⟩, by decide +kernel⟩
theorem im_Pv_reach : Cond.instanceMethod y_Pv_reach ∈ TB := tb2 191 rfl rfl
theorem se_Pv_reach : Cond.selects "ProofGate$Prover" y_Pv_reach y_Pv_reach ∈ TB := sp2 (q := (y_Pv_reach, 9)) 3 rfl
theorem ok_Pv_findWhatFollows : gOK y_Pv_findWhatFollows b_Pv_findWhatFollows 1 none 0 := ⟨tb2 196 rfl rfl, tb1 7 rfl rfl, ⟨by decide +kernel, by decide +kernel⟩, by decide +kernel⟩
theorem im_Pv_findWhatFollows : Cond.instanceMethod y_Pv_findWhatFollows ∈ TB := tb2 195 rfl rfl
theorem se_Pv_findWhatFollows : Cond.selects "ProofGate$Prover" y_Pv_findWhatFollows y_Pv_findWhatFollows ∈ TB := sp2 (q := (y_Pv_findWhatFollows, 9)) 4 rfl
theorem ok_Pv_findMayByVoice : gOK y_Pv_findMayByVoice b_Pv_findMayByVoice 5 none 0 := ⟨tb2 200 rfl rfl, tb1 7 rfl rfl, ⟨by decide +kernel, by decide +kernel⟩, by decide +kernel⟩
theorem im_Pv_findMayByVoice : Cond.instanceMethod y_Pv_findMayByVoice ∈ TB := tb2 199 rfl rfl
theorem se_Pv_findMayByVoice : Cond.selects "ProofGate$Prover" y_Pv_findMayByVoice y_Pv_findMayByVoice ∈ TB := sp2 (q := (y_Pv_findMayByVoice, 9)) 5 rfl
theorem ok_Pv_isKnown : gOK y_Pv_isKnown b_Pv_isKnown 2 (some FieldType.boolean) 1 := ⟨tb2 204 rfl rfl, tb1 7 rfl rfl, ⟨by decide +kernel, by decide +kernel⟩, by decide +kernel⟩
theorem im_Pv_isKnown : Cond.instanceMethod y_Pv_isKnown ∈ TB := tb2 203 rfl rfl
theorem se_Pv_isKnown : Cond.selects "ProofGate$Prover" y_Pv_isKnown y_Pv_isKnown ∈ TB := sp2 (q := (y_Pv_isKnown, 9)) 6 rfl
theorem ok_Pv_handOnMay : gOK y_Pv_handOnMay b_Pv_handOnMay 8 none 5 := ⟨tb2 208 rfl rfl, tb1 7 rfl rfl, ⟨by decide +kernel, by decide +kernel⟩, by decide +kernel⟩
theorem im_Pv_handOnMay : Cond.instanceMethod y_Pv_handOnMay ∈ TB := tb2 207 rfl rfl
theorem se_Pv_handOnMay : Cond.selects "ProofGate$Prover" y_Pv_handOnMay y_Pv_handOnMay ∈ TB := sp2 (q := (y_Pv_handOnMay, 9)) 7 rfl
theorem ok_Pv_findMayByTrust : gOK y_Pv_findMayByTrust b_Pv_findMayByTrust 6 none 0 := ⟨tb2 212 rfl rfl, tb1 7 rfl rfl, ⟨by decide +kernel, by decide +kernel⟩, by decide +kernel⟩
theorem im_Pv_findMayByTrust : Cond.instanceMethod y_Pv_findMayByTrust ∈ TB := tb2 211 rfl rfl
theorem se_Pv_findMayByTrust : Cond.selects "ProofGate$Prover" y_Pv_findMayByTrust y_Pv_findMayByTrust ∈ TB := sp2 (q := (y_Pv_findMayByTrust, 9)) 8 rfl
theorem ok_Pv_findTrustByTrust : gOK y_Pv_findTrustByTrust b_Pv_findTrustByTrust 6 none 0 := ⟨tb2 216 rfl rfl, tb1 7 rfl rfl, ⟨by decide +kernel, by decide +kernel⟩, by decide +kernel⟩
theorem im_Pv_findTrustByTrust : Cond.instanceMethod y_Pv_findTrustByTrust ∈ TB := tb2 215 rfl rfl
theorem se_Pv_findTrustByTrust : Cond.selects "ProofGate$Prover" y_Pv_findTrustByTrust y_Pv_findTrustByTrust ∈ TB := sp2 (q := (y_Pv_findTrustByTrust, 9)) 9 rfl
theorem ok_Pv_handOnTrust : gOK y_Pv_handOnTrust b_Pv_handOnTrust 10 none 6 := ⟨tb2 220 rfl rfl, tb1 7 rfl rfl, ⟨by decide +kernel, by decide +kernel⟩, by decide +kernel⟩
theorem im_Pv_handOnTrust : Cond.instanceMethod y_Pv_handOnTrust ∈ TB := tb2 219 rfl rfl
theorem se_Pv_handOnTrust : Cond.selects "ProofGate$Prover" y_Pv_handOnTrust y_Pv_handOnTrust ∈ TB := sp2 (q := (y_Pv_handOnTrust, 9)) 10 rfl
theorem ok_Ma_min : gOK y_Ma_min b_Ma_min 2 (some FieldType.int) 2 := ⟨tb2 223 rfl rfl, tb1 22 rfl rfl, ⟨by decide +kernel, by decide +kernel⟩, by decide +kernel⟩
theorem st_Ma_min : Cond.static y_Ma_min ∈ TB := tb2 222 rfl rfl
theorem ok_Pv_findTrustByVoice : gOK y_Pv_findTrustByVoice b_Pv_findTrustByVoice 5 none 0 := ⟨tb2 227 rfl rfl, tb1 7 rfl rfl, ⟨by decide +kernel, by decide +kernel⟩, by decide +kernel⟩
theorem im_Pv_findTrustByVoice : Cond.instanceMethod y_Pv_findTrustByVoice ∈ TB := tb2 226 rfl rfl
theorem se_Pv_findTrustByVoice : Cond.selects "ProofGate$Prover" y_Pv_findTrustByVoice y_Pv_findTrustByVoice ∈ TB := sp2 (q := (y_Pv_findTrustByVoice, 9)) 11 rfl
theorem ok_Pv_findVoiceByVoice : gOK y_Pv_findVoiceByVoice b_Pv_findVoiceByVoice 3 none 0 := ⟨tb2 231 rfl rfl, tb1 7 rfl rfl, ⟨by decide +kernel, by decide +kernel⟩, by decide +kernel⟩
theorem im_Pv_findVoiceByVoice : Cond.instanceMethod y_Pv_findVoiceByVoice ∈ TB := tb2 230 rfl rfl
theorem se_Pv_findVoiceByVoice : Cond.selects "ProofGate$Prover" y_Pv_findVoiceByVoice y_Pv_findVoiceByVoice ∈ TB := sp2 (q := (y_Pv_findVoiceByVoice, 9)) 12 rfl
theorem ok_Pv_handOnVoice : gOK y_Pv_handOnVoice b_Pv_handOnVoice 5 none 2 := ⟨tb2 235 rfl rfl, tb1 7 rfl rfl, ⟨by decide +kernel, by decide +kernel⟩, by decide +kernel⟩
theorem im_Pv_handOnVoice : Cond.instanceMethod y_Pv_handOnVoice ∈ TB := tb2 234 rfl rfl
theorem se_Pv_handOnVoice : Cond.selects "ProofGate$Prover" y_Pv_handOnVoice y_Pv_handOnVoice ∈ TB := sp2 (q := (y_Pv_handOnVoice, 9)) 13 rfl
theorem ok_Pv_findImplied : gOK y_Pv_findImplied b_Pv_findImplied 3 none 0 := ⟨tb2 239 rfl rfl, tb1 7 rfl rfl, ⟨by decide +kernel, by decide +kernel⟩, by decide +kernel⟩
theorem im_Pv_findImplied : Cond.instanceMethod y_Pv_findImplied ∈ TB := tb2 238 rfl rfl
theorem se_Pv_findImplied : Cond.selects "ProofGate$Prover" y_Pv_findImplied y_Pv_findImplied ∈ TB := sp2 (q := (y_Pv_findImplied, 9)) 14 rfl
theorem ok_Pv_applyImply : gOK y_Pv_applyImply b_Pv_applyImply 7 none 4 := ⟨tb3 3 rfl rfl, tb1 7 rfl rfl, ⟨by decide +kernel, by decide +kernel⟩, by decide +kernel⟩
theorem im_Pv_applyImply : Cond.instanceMethod y_Pv_applyImply ∈ TB := tb3 2 rfl rfl
theorem se_Pv_applyImply : Cond.selects "ProofGate$Prover" y_Pv_applyImply y_Pv_applyImply ∈ TB := sp2 (q := (y_Pv_applyImply, 9)) 15 rfl
theorem ok_Pv_writesStep : gOK y_Pv_writesStep b_Pv_writesStep 6 (some FieldType.boolean) 2 := ⟨tb3 8 rfl rfl, tb1 7 rfl rfl, ⟨by decide +kernel, by decide +kernel⟩, by decide +kernel⟩
theorem im_Pv_writesStep : Cond.instanceMethod y_Pv_writesStep ∈ TB := tb3 7 rfl rfl
theorem se_Pv_writesStep : Cond.selects "ProofGate$Prover" y_Pv_writesStep y_Pv_writesStep ∈ TB := sp3 (q := (y_Pv_writesStep, 9)) 0 rfl
theorem ok_Pv_written : gOK y_Pv_written b_Pv_written 1 (some (FieldType.object "ProofGate$Proof")) 0 := ⟨tb3 14 rfl rfl, tb1 7 rfl rfl, ⟨by decide +kernel, by decide +kernel⟩, by decide +kernel⟩
theorem im_Pv_written : Cond.instanceMethod y_Pv_written ∈ TB := tb3 13 rfl rfl
theorem se_Pv_written : Cond.selects "ProofGate$Prover" y_Pv_written y_Pv_written ∈ TB := sp3 (q := (y_Pv_written, 9)) 1 rfl
theorem ok_Pf_become : gOK y_Pf_become b_Pf_become 2 none 1 := ⟨tb3 18 rfl rfl, tb1 6 rfl rfl, ⟨by decide +kernel, by decide +kernel⟩, by decide +kernel⟩
theorem im_Pf_become : Cond.instanceMethod y_Pf_become ∈ TB := tb3 17 rfl rfl
theorem se_Pf_become : Cond.selects "ProofGate$Proof" y_Pf_become y_Pf_become ∈ TB := sp3 (q := (y_Pf_become, 4)) 2 rfl
theorem ok_Ga_check : gOK y_Ga_check b_Ga_check 4 (some FieldType.boolean) 3 := ⟨tb3 25 rfl rfl, tb1 1 rfl rfl, ⟨by decide +kernel, by decide +kernel⟩, by decide +kernel⟩
theorem im_Ga_check : Cond.instanceMethod y_Ga_check ∈ TB := tb3 23 rfl rfl
theorem se_Ga_check : Cond.selects "ProofGate" y_Ga_check y_Ga_check ∈ TB := tb3 24 rfl rfl
theorem ok_Ck_accepts : gOK y_Ck_accepts b_Ck_accepts 8 (some FieldType.boolean) 5 := ⟨tb3 29 rfl rfl, tb1 8 rfl rfl, ⟨by decide +kernel, by decide +kernel⟩, by decide +kernel⟩
theorem im_Ck_accepts : Cond.instanceMethod y_Ck_accepts ∈ TB := tb3 28 rfl rfl
theorem se_Ck_accepts : Cond.selects "ProofGate$Checker" y_Ck_accepts y_Ck_accepts ∈ TB := sp3 (q := (y_Ck_accepts, 2)) 3 rfl
theorem ok_Ck_follows : gOK y_Ck_follows b_Ck_follows 5 (some FieldType.boolean) 4 := ⟨tb3 37 rfl rfl, tb1 8 rfl rfl, ⟨by decide +kernel, by decide +kernel⟩, by decide +kernel⟩
theorem im_Ck_follows : Cond.instanceMethod y_Ck_follows ∈ TB := tb3 36 rfl rfl
theorem se_Ck_follows : Cond.selects "ProofGate$Checker" y_Ck_follows y_Ck_follows ∈ TB := sp3 (q := (y_Ck_follows, 2)) 4 rfl
theorem ok_Ck_isSaid : gOK y_Ck_isSaid b_Ck_isSaid 2 (some FieldType.boolean) 2 := ⟨tb3 41 rfl rfl, tb1 8 rfl rfl, ⟨by decide +kernel, by decide +kernel⟩, by decide +kernel⟩
theorem st_Ck_isSaid : Cond.static y_Ck_isSaid ∈ TB := tb3 40 rfl rfl
theorem ok_Fa_becomeSaidBy : gOK y_Fa_becomeSaidBy b_Fa_becomeSaidBy 2 none 1 := ⟨tb3 45 rfl rfl, tb1 9 rfl rfl, ⟨by decide +kernel, by decide +kernel⟩, by decide +kernel⟩
theorem im_Fa_becomeSaidBy : Cond.instanceMethod y_Fa_becomeSaidBy ∈ TB := tb3 44 rfl rfl
theorem se_Fa_becomeSaidBy : Cond.selects "ProofGate$Fact" y_Fa_becomeSaidBy y_Fa_becomeSaidBy ∈ TB := sp3 (q := (y_Fa_becomeSaidBy, 6)) 5 rfl
theorem ok_Ck_isImplied : gOK y_Ck_isImplied b_Ck_isImplied 3 (some FieldType.boolean) 3 := ⟨tb3 48 rfl rfl, tb1 8 rfl rfl, ⟨by decide +kernel, by decide +kernel⟩, by decide +kernel⟩
theorem st_Ck_isImplied : Cond.static y_Ck_isImplied ∈ TB := tb3 47 rfl rfl
theorem ok_Fa_become : gOK y_Fa_become b_Fa_become 2 none 1 := ⟨tb3 52 rfl rfl, tb1 9 rfl rfl, ⟨by decide +kernel, by decide +kernel⟩, by decide +kernel⟩
theorem im_Fa_become : Cond.instanceMethod y_Fa_become ∈ TB := tb3 51 rfl rfl
theorem se_Fa_become : Cond.selects "ProofGate$Fact" y_Fa_become y_Fa_become ∈ TB := sp3 (q := (y_Fa_become, 6)) 6 rfl
theorem ok_Ck_isJoined : gOK y_Ck_isJoined b_Ck_isJoined 4 (some FieldType.boolean) 4 := ⟨tb3 55 rfl rfl, tb1 8 rfl rfl, ⟨by decide +kernel, by decide +kernel⟩, by decide +kernel⟩
theorem st_Ck_isJoined : Cond.static y_Ck_isJoined ∈ TB := tb3 54 rfl rfl
theorem ok_Ck_isHandedOn : gOK y_Ck_isHandedOn b_Ck_isHandedOn 3 (some FieldType.boolean) 3 := ⟨tb3 58 rfl rfl, tb1 8 rfl rfl, ⟨by decide +kernel, by decide +kernel⟩, by decide +kernel⟩
theorem st_Ck_isHandedOn : Cond.static y_Ck_isHandedOn ∈ TB := tb3 57 rfl rfl
theorem ok_Fa_isOfSameThing : gOK y_Fa_isOfSameThing b_Fa_isOfSameThing 2 (some FieldType.boolean) 1 := ⟨tb3 62 rfl rfl, tb1 9 rfl rfl, ⟨by decide +kernel, by decide +kernel⟩, by decide +kernel⟩
theorem im_Fa_isOfSameThing : Cond.instanceMethod y_Fa_isOfSameThing ∈ TB := tb3 61 rfl rfl
theorem se_Fa_isOfSameThing : Cond.selects "ProofGate$Fact" y_Fa_isOfSameThing y_Fa_isOfSameThing ∈ TB := sp3 (q := (y_Fa_isOfSameThing, 6)) 7 rfl
theorem ok_Ck_isTrustedDeeper : gOK y_Ck_isTrustedDeeper b_Ck_isTrustedDeeper 3 (some FieldType.boolean) 3 := ⟨tb3 65 rfl rfl, tb1 8 rfl rfl, ⟨by decide +kernel, by decide +kernel⟩, by decide +kernel⟩
theorem st_Ck_isTrustedDeeper : Cond.static y_Ck_isTrustedDeeper ∈ TB := tb3 64 rfl rfl
theorem ok_Fa_isMay : gOK y_Fa_isMay b_Fa_isMay 5 (some FieldType.boolean) 4 := ⟨tb3 70 rfl rfl, tb1 9 rfl rfl, ⟨by decide +kernel, by decide +kernel⟩, by decide +kernel⟩
theorem im_Fa_isMay : Cond.instanceMethod y_Fa_isMay ∈ TB := tb3 69 rfl rfl
theorem se_Fa_isMay : Cond.selects "ProofGate$Fact" y_Fa_isMay y_Fa_isMay ∈ TB := sp3 (q := (y_Fa_isMay, 6)) 8 rfl
theorem ok_Ga_fuse : gOK y_Ga_fuse b_Ga_fuse 2 (some FieldType.boolean) 1 := ⟨tb3 74 rfl rfl, tb1 1 rfl rfl, ⟨by decide +kernel, by decide +kernel⟩, by decide +kernel⟩
theorem im_Ga_fuse : Cond.instanceMethod y_Ga_fuse ∈ TB := tb3 72 rfl rfl
theorem se_Ga_fuse : Cond.selects "ProofGate" y_Ga_fuse y_Ga_fuse ∈ TB := tb3 73 rfl rfl
theorem ok_Fu_light : gOK y_Fu_light b_Fu_light 2 none 1 := ⟨tb3 78 rfl rfl, tb1 11 rfl rfl, ⟨by decide +kernel, by decide +kernel⟩, by decide +kernel⟩
theorem im_Fu_light : Cond.instanceMethod y_Fu_light ∈ TB := tb3 77 rfl rfl
theorem se_Fu_light : Cond.selects "ProofGate$Fuse" y_Fu_light y_Fu_light ∈ TB := sp3 (q := (y_Fu_light, 1)) 9 rfl
theorem ok_Ga_owner : gOK y_Ga_owner b_Ga_owner 2 (some FieldType.int) 1 := ⟨tb3 82 rfl rfl, tb1 1 rfl rfl, ⟨by decide +kernel, by decide +kernel⟩, by decide +kernel⟩
theorem im_Ga_owner : Cond.instanceMethod y_Ga_owner ∈ TB := tb3 80 rfl rfl
theorem se_Ga_owner : Cond.selects "ProofGate" y_Ga_owner y_Ga_owner ∈ TB := tb3 81 rfl rfl
theorem ok_Ga_credentials : gOK y_Ga_credentials b_Ga_credentials 1 (some FieldType.int) 0 := ⟨tb3 86 rfl rfl, tb1 1 rfl rfl, ⟨by decide +kernel, by decide +kernel⟩, by decide +kernel⟩
theorem im_Ga_credentials : Cond.instanceMethod y_Ga_credentials ∈ TB := tb3 84 rfl rfl
theorem se_Ga_credentials : Cond.selects "ProofGate" y_Ga_credentials y_Ga_credentials ∈ TB := tb3 85 rfl rfl
theorem ok_Ga_valid : gOK y_Ga_valid b_Ga_valid 2 (some FieldType.boolean) 1 := ⟨tb3 91 rfl rfl, tb1 1 rfl rfl, ⟨by decide +kernel, by decide +kernel⟩, by decide +kernel⟩
theorem im_Ga_valid : Cond.instanceMethod y_Ga_valid ∈ TB := tb3 89 rfl rfl
theorem se_Ga_valid : Cond.selects "ProofGate" y_Ga_valid y_Ga_valid ∈ TB := tb3 90 rfl rfl
theorem ok_Ga_grants : gOK y_Ga_grants b_Ga_grants 1 (some FieldType.int) 0 := ⟨tb3 96 rfl rfl, tb1 1 rfl rfl, ⟨by decide +kernel, by decide +kernel⟩, by decide +kernel⟩
theorem im_Ga_grants : Cond.instanceMethod y_Ga_grants ∈ TB := tb3 94 rfl rfl
theorem se_Ga_grants : Cond.selects "ProofGate" y_Ga_grants y_Ga_grants ∈ TB := tb3 95 rfl rfl
theorem ok_Lg_count : gOK y_Lg_count b_Lg_count 1 (some FieldType.int) 0 := ⟨tb3 100 rfl rfl, tb1 10 rfl rfl, ⟨by decide +kernel, by decide +kernel⟩, by decide +kernel⟩
theorem im_Lg_count : Cond.instanceMethod y_Lg_count ∈ TB := tb3 99 rfl rfl
theorem se_Lg_count : Cond.selects "ProofGate$AuditLog" y_Lg_count y_Lg_count ∈ TB := sp3 (q := (y_Lg_count, 2)) 10 rfl
theorem ok_Ga_chain : gOK y_Ga_chain b_Ga_chain 1 (some FieldType.int) 0 := ⟨tb3 104 rfl rfl, tb1 1 rfl rfl, ⟨by decide +kernel, by decide +kernel⟩, by decide +kernel⟩
theorem im_Ga_chain : Cond.instanceMethod y_Ga_chain ∈ TB := tb3 102 rfl rfl
theorem se_Ga_chain : Cond.selects "ProofGate" y_Ga_chain y_Ga_chain ∈ TB := tb3 103 rfl rfl
theorem ok_Lg_link : gOK y_Lg_link b_Lg_link 1 (some FieldType.int) 0 := ⟨tb3 108 rfl rfl, tb1 10 rfl rfl, ⟨by decide +kernel, by decide +kernel⟩, by decide +kernel⟩
theorem im_Lg_link : Cond.instanceMethod y_Lg_link ∈ TB := tb3 107 rfl rfl
theorem se_Lg_link : Cond.selects "ProofGate$AuditLog" y_Lg_link y_Lg_link ∈ TB := sp3 (q := (y_Lg_link, 2)) 11 rfl
theorem ok_Lw_cell : gOK y_Lw_cell b_Lw_cell 2 (some FieldType.int) 2 := ⟨tb3 111 rfl rfl, tb1 0 rfl rfl, ⟨by decide +kernel, by decide +kernel⟩, by decide +kernel⟩
theorem st_Lw_cell : Cond.static y_Lw_cell ∈ TB := tb3 110 rfl rfl
theorem ok_Ga_submit : gOK y_Ga_submit b_Ga_submit 7 (some FieldType.int) 5 := ⟨tb3 121 rfl rfl, tb1 1 rfl rfl, ⟨by decide +kernel, by decide +kernel⟩, by decide +kernel⟩
theorem im_Ga_submit : Cond.instanceMethod y_Ga_submit ∈ TB := tb3 119 rfl rfl
theorem se_Ga_submit : Cond.selects "ProofGate" y_Ga_submit y_Ga_submit ∈ TB := tb3 120 rfl rfl
theorem ok_Cr_isWellFormed : gOK y_Cr_isWellFormed b_Cr_isWellFormed 3 (some FieldType.boolean) 0 := ⟨tb3 125 rfl rfl, tb1 14 rfl rfl, ⟨by decide +kernel, by decide +kernel⟩, by decide +kernel⟩
theorem im_Cr_isWellFormed : Cond.instanceMethod y_Cr_isWellFormed ∈ TB := tb3 124 rfl rfl
theorem se_Cr_isWellFormed : Cond.selects "ProofGate$Credential" y_Cr_isWellFormed y_Cr_isWellFormed ∈ TB := sp3 (q := (y_Cr_isWellFormed, 6)) 12 rfl
theorem ok_Ga_writeRecord : gOK y_Ga_writeRecord b_Ga_writeRecord 1 none 0 := ⟨tb3 231 rfl rfl, tb1 1 rfl rfl, ⟨by decide +kernel, by decide +kernel⟩, by decide +kernel⟩
theorem im_Ga_writeRecord : Cond.instanceMethod y_Ga_writeRecord ∈ TB := tb3 230 rfl rfl
theorem se_Ga_writeRecord : Cond.selects "ProofGate" y_Ga_writeRecord y_Ga_writeRecord ∈ TB := sp3 (q := (y_Ga_writeRecord, 10)) 14 rfl
theorem ok_Fu_burnsThrough : gOK y_Fu_burnsThrough b_Fu_burnsThrough 1 (some FieldType.boolean) 0 := ⟨tb3 235 rfl rfl, tb1 11 rfl rfl, ⟨by decide +kernel, by decide +kernel⟩, by decide +kernel⟩
theorem im_Fu_burnsThrough : Cond.instanceMethod y_Fu_burnsThrough ∈ TB := tb3 234 rfl rfl
theorem se_Fu_burnsThrough : Cond.selects "ProofGate$Fuse" y_Fu_burnsThrough y_Fu_burnsThrough ∈ TB := sp3 (q := (y_Fu_burnsThrough, 1)) 15 rfl
theorem ok_Cs_take : gOK y_Cs_take b_Cs_take 2 (some FieldType.int) 1 := ⟨tb4 0 rfl rfl, tb1 2 rfl rfl, ⟨by decide +kernel, by decide +kernel⟩, by decide +kernel⟩
theorem im_Cs_take : Cond.instanceMethod y_Cs_take ∈ TB := tb3 239 rfl rfl
theorem se_Cs_take : Cond.selects "ProofGate$Credentials" y_Cs_take y_Cs_take ∈ TB := sp4 (q := (y_Cs_take, 2)) 0 rfl
theorem ok_AL_add : gOK y_AL_add b_AL_add 2 (some FieldType.boolean) 1 := ⟨tb4 4 rfl rfl, tb1 5 rfl rfl, ⟨by decide +kernel, by decide +kernel⟩, by decide +kernel⟩
theorem im_AL_add : Cond.instanceMethod y_AL_add ∈ TB := tb4 2 rfl rfl
theorem se_AL_add : Cond.selects "java/util/ArrayList" y_AL_add y_AL_add ∈ TB := tb4 3 rfl rfl
theorem ok_AL_add2 : gOK y_AL_add2 b_AL_add2 4 none 3 := ⟨tb4 8 rfl rfl, tb1 5 rfl rfl, ⟨by decide +kernel, by decide +kernel⟩, by decide +kernel⟩
theorem im_AL_add2 : Cond.instanceMethod y_AL_add2 ∈ TB := tb4 7 rfl rfl
theorem se_AL_add2 : Cond.selects "java/util/ArrayList" y_AL_add2 y_AL_add2 ∈ TB := sp4 (q := (y_AL_add2, 3)) 1 rfl
theorem ok_AL_grow : gOK y_AL_grow b_AL_grow 1 (some (FieldType.array (FieldType.object "java/lang/Object"))) 0 := ⟨tb4 12 rfl rfl, tb1 5 rfl rfl, ⟨by decide +kernel, by decide +kernel⟩, by decide +kernel⟩
theorem im_AL_grow : Cond.instanceMethod y_AL_grow ∈ TB := tb4 11 rfl rfl
theorem se_AL_grow : Cond.selects "java/util/ArrayList" y_AL_grow y_AL_grow ∈ TB := sp4 (q := (y_AL_grow, 3)) 2 rfl
theorem ok_AL_grow2 : gOK y_AL_grow2 b_AL_grow2 4 (some (FieldType.array (FieldType.object "java/lang/Object"))) 1 := ⟨tb4 16 rfl rfl, tb1 5 rfl rfl, ⟨by decide +kernel, by decide +kernel⟩, by decide +kernel⟩
theorem im_AL_grow2 : Cond.instanceMethod y_AL_grow2 ∈ TB := tb4 15 rfl rfl
theorem se_AL_grow2 : Cond.selects "java/util/ArrayList" y_AL_grow2 y_AL_grow2 ∈ TB := sp4 (q := (y_AL_grow2, 3)) 3 rfl
theorem ok_As_newLength : gOK y_As_newLength b_As_newLength 4 (some FieldType.int) 3 := ⟨tb4 19 rfl rfl, tb1 21 rfl rfl, ⟨by decide +kernel, by decide +kernel⟩, by decide +kernel⟩
theorem st_As_newLength : Cond.static y_As_newLength ∈ TB := tb4 18 rfl rfl
theorem ok_Ma_max : gOK y_Ma_max b_Ma_max 2 (some FieldType.int) 2 := ⟨tb4 22 rfl rfl, tb1 22 rfl rfl, ⟨by decide +kernel, by decide +kernel⟩, by decide +kernel⟩
theorem st_Ma_max : Cond.static y_Ma_max ∈ TB := tb4 21 rfl rfl
theorem ok_As_hugeLength : gOK y_As_hugeLength b_As_hugeLength 3 (some FieldType.int) 2 := ⟨tb4 26 rfl rfl, tb1 21 rfl rfl, ⟨by decide +kernel, by decide +kernel⟩, by decide +kernel⟩
theorem st_As_hugeLength : Cond.static y_As_hugeLength ∈ TB := tb4 25 rfl rfl
theorem ok_Ar_copyOf : gOK y_Ar_copyOf b_Ar_copyOf 2 (some (FieldType.array (FieldType.object "java/lang/Object"))) 2 := ⟨tb4 29 rfl rfl, tb1 12 rfl rfl, ⟨by decide +kernel, by decide +kernel⟩, by decide +kernel⟩
theorem st_Ar_copyOf : Cond.static y_Ar_copyOf ∈ TB := tb4 28 rfl rfl
theorem ok_Ar_copyOf2 : gOK y_Ar_copyOf2 b_Ar_copyOf2 4 (some (FieldType.array (FieldType.object "java/lang/Object"))) 3 := ⟨tb4 51 rfl rfl, tb1 12 rfl rfl, ⟨by decide +kernel, by decide +kernel⟩, by decide +kernel⟩
theorem st_Ar_copyOf2 : Cond.static y_Ar_copyOf2 ∈ TB := tb4 50 rfl rfl
theorem ok_Ga_revoke : gOK y_Ga_revoke b_Ga_revoke 4 (some FieldType.boolean) 2 := ⟨tb4 66 rfl rfl, tb1 1 rfl rfl, ⟨by decide +kernel, by decide +kernel⟩, by decide +kernel⟩
theorem im_Ga_revoke : Cond.instanceMethod y_Ga_revoke ∈ TB := tb4 64 rfl rfl
theorem se_Ga_revoke : Cond.selects "ProofGate" y_Ga_revoke y_Ga_revoke ∈ TB := tb4 65 rfl rfl
theorem ok_Ga_request : gOK y_Ga_request b_Ga_request 7 (some FieldType.int) 5 := ⟨tb4 91 rfl rfl, tb1 1 rfl rfl, ⟨by decide +kernel, by decide +kernel⟩, by decide +kernel⟩
theorem im_Ga_request : Cond.instanceMethod y_Ga_request ∈ TB := tb4 89 rfl rfl
theorem se_Ga_request : Cond.selects "ProofGate" y_Ga_request y_Ga_request ∈ TB := tb4 90 rfl rfl
theorem ok_Ga_useUpDraft : gOK y_Ga_useUpDraft b_Ga_useUpDraft 6 (some FieldType.int) 3 := ⟨tb4 97 rfl rfl, tb1 1 rfl rfl, ⟨by decide +kernel, by decide +kernel⟩, by decide +kernel⟩
theorem im_Ga_useUpDraft : Cond.instanceMethod y_Ga_useUpDraft ∈ TB := tb4 96 rfl rfl
theorem se_Ga_useUpDraft : Cond.selects "ProofGate" y_Ga_useUpDraft y_Ga_useUpDraft ∈ TB := sp4 (q := (y_Ga_useUpDraft, 10)) 4 rfl
theorem ok_Lg_addGrant : gOK y_Lg_addGrant b_Lg_addGrant 5 none 4 := ⟨tb4 102 rfl rfl, tb1 10 rfl rfl, ⟨by decide +kernel, by decide +kernel⟩, by decide +kernel⟩
theorem im_Lg_addGrant : Cond.instanceMethod y_Lg_addGrant ∈ TB := tb4 101 rfl rfl
theorem se_Lg_addGrant : Cond.selects "ProofGate$AuditLog" y_Lg_addGrant y_Lg_addGrant ∈ TB := sp4 (q := (y_Lg_addGrant, 2)) 5 rfl
theorem ok_Ga_carryOut : gOK y_Ga_carryOut b_Ga_carryOut 7 (some FieldType.int) 4 := ⟨tb4 106 rfl rfl, tb1 1 rfl rfl, ⟨by decide +kernel, by decide +kernel⟩, by decide +kernel⟩
theorem im_Ga_carryOut : Cond.instanceMethod y_Ga_carryOut ∈ TB := tb4 105 rfl rfl
theorem se_Ga_carryOut : Cond.selects "ProofGate" y_Ga_carryOut y_Ga_carryOut ∈ TB := sp4 (q := (y_Ga_carryOut, 10)) 6 rfl
theorem ok_Mo_init : gOK y_Mo_init b_Mo_init 2 none 1 := ⟨tb4 111 rfl rfl, tb1 13 rfl rfl, ⟨by decide +kernel, by decide +kernel⟩, by decide +kernel⟩
theorem im_Mo_init : Cond.instanceMethod y_Mo_init ∈ TB := tb4 110 rfl rfl
theorem ok_Mo_thrown : gOK y_Mo_thrown b_Mo_thrown 1 (some FieldType.int) 0 := ⟨tb4 232 rfl rfl, tb1 13 rfl rfl, ⟨by decide +kernel, by decide +kernel⟩, by decide +kernel⟩
theorem im_Mo_thrown : Cond.instanceMethod y_Mo_thrown ∈ TB := tb4 230 rfl rfl
theorem se_Mo_thrown : Cond.selects "ProofGateModel" y_Mo_thrown y_Mo_thrown ∈ TB := tb4 231 rfl rfl
theorem ok_Mo_fuse : gOK y_Mo_fuse b_Mo_fuse 2 (some FieldType.boolean) 1 := ⟨tb4 236 rfl rfl, tb1 13 rfl rfl, ⟨by decide +kernel, by decide +kernel⟩, by decide +kernel⟩
theorem im_Mo_fuse : Cond.instanceMethod y_Mo_fuse ∈ TB := tb4 234 rfl rfl
theorem se_Mo_fuse : Cond.selects "ProofGateModel" y_Mo_fuse y_Mo_fuse ∈ TB := tb4 235 rfl rfl
theorem ok_Mo_in : gOK y_Mo_in b_Mo_in 3 (some FieldType.boolean) 3 := ⟨tb4 239 rfl rfl, tb1 13 rfl rfl, ⟨by decide +kernel, by decide +kernel⟩, by decide +kernel⟩
theorem st_Mo_in : Cond.static y_Mo_in ∈ TB := tb4 238 rfl rfl
theorem ok_Mo_seal : gOK y_Mo_seal b_Mo_seal 10 (some FieldType.int) 8 := ⟨tb5 3 rfl rfl, tb1 13 rfl rfl, ⟨by decide +kernel, by decide +kernel⟩, by decide +kernel⟩
theorem im_Mo_seal : Cond.instanceMethod y_Mo_seal ∈ TB := tb5 1 rfl rfl
theorem se_Mo_seal : Cond.selects "ProofGateModel" y_Mo_seal y_Mo_seal ∈ TB := tb5 2 rfl rfl
theorem ok_Mo_mix : gOK y_Mo_mix b_Mo_mix 3 (some FieldType.int) 2 := ⟨tb5 6 rfl rfl, tb1 13 rfl rfl, ⟨by decide +kernel, by decide +kernel⟩, by decide +kernel⟩
theorem st_Mo_mix : Cond.static y_Mo_mix ∈ TB := tb5 5 rfl rfl
theorem ok_Mo_set : gOK y_Mo_set b_Mo_set 5 none 4 := ⟨tb5 12 rfl rfl, tb1 13 rfl rfl, ⟨by decide +kernel, by decide +kernel⟩, by decide +kernel⟩
theorem im_Mo_set : Cond.instanceMethod y_Mo_set ∈ TB := tb5 10 rfl rfl
theorem se_Mo_set : Cond.selects "ProofGateModel" y_Mo_set y_Mo_set ∈ TB := tb5 11 rfl rfl
theorem ok_Mo_submit : gOK y_Mo_submit b_Mo_submit 7 (some FieldType.int) 5 := ⟨tb5 16 rfl rfl, tb1 13 rfl rfl, ⟨by decide +kernel, by decide +kernel⟩, by decide +kernel⟩
theorem im_Mo_submit : Cond.instanceMethod y_Mo_submit ∈ TB := tb5 14 rfl rfl
theorem se_Mo_submit : Cond.selects "ProofGateModel" y_Mo_submit y_Mo_submit ∈ TB := tb5 15 rfl rfl
theorem ok_Mo_isPerson : gOK y_Mo_isPerson b_Mo_isPerson 1 (some FieldType.boolean) 1 := ⟨tb5 19 rfl rfl, tb1 13 rfl rfl, ⟨by decide +kernel, by decide +kernel⟩, by decide +kernel⟩
theorem st_Mo_isPerson : Cond.static y_Mo_isPerson ∈ TB := tb5 18 rfl rfl
theorem ok_Mo_isFit : gOK y_Mo_isFit b_Mo_isFit 2 (some FieldType.boolean) 1 := ⟨tb5 23 rfl rfl, tb1 13 rfl rfl, ⟨by decide +kernel, by decide +kernel⟩, by decide +kernel⟩
theorem im_Mo_isFit : Cond.instanceMethod y_Mo_isFit ∈ TB := tb5 22 rfl rfl
theorem se_Mo_isFit : Cond.selects "ProofGateModel" y_Mo_isFit y_Mo_isFit ∈ TB := sp4 (q := (y_Mo_isFit, 38)) 7 rfl
theorem ok_Mo_isRight : gOK y_Mo_isRight b_Mo_isRight 1 (some FieldType.boolean) 1 := ⟨tb5 26 rfl rfl, tb1 13 rfl rfl, ⟨by decide +kernel, by decide +kernel⟩, by decide +kernel⟩
theorem st_Mo_isRight : Cond.static y_Mo_isRight ∈ TB := tb5 25 rfl rfl
theorem ok_Mo_fails : gOK y_Mo_fails b_Mo_fails 2 (some FieldType.int) 1 := ⟨tb5 30 rfl rfl, tb1 13 rfl rfl, ⟨by decide +kernel, by decide +kernel⟩, by decide +kernel⟩
theorem im_Mo_fails : Cond.instanceMethod y_Mo_fails ∈ TB := tb5 29 rfl rfl
theorem se_Mo_fails : Cond.selects "ProofGateModel" y_Mo_fails y_Mo_fails ∈ TB := sp4 (q := (y_Mo_fails, 38)) 8 rfl
theorem ok_Mo_recorded : gOK y_Mo_recorded b_Mo_recorded 1 (some FieldType.boolean) 0 := ⟨tb5 35 rfl rfl, tb1 13 rfl rfl, ⟨by decide +kernel, by decide +kernel⟩, by decide +kernel⟩
theorem im_Mo_recorded : Cond.instanceMethod y_Mo_recorded ∈ TB := tb5 34 rfl rfl
theorem se_Mo_recorded : Cond.selects "ProofGateModel" y_Mo_recorded y_Mo_recorded ∈ TB := sp4 (q := (y_Mo_recorded, 38)) 9 rfl
theorem ok_Mo_revoke : gOK y_Mo_revoke b_Mo_revoke 3 (some FieldType.boolean) 2 := ⟨tb5 39 rfl rfl, tb1 13 rfl rfl, ⟨by decide +kernel, by decide +kernel⟩, by decide +kernel⟩
theorem im_Mo_revoke : Cond.instanceMethod y_Mo_revoke ∈ TB := tb5 37 rfl rfl
theorem se_Mo_revoke : Cond.selects "ProofGateModel" y_Mo_revoke y_Mo_revoke ∈ TB := tb5 38 rfl rfl
theorem ok_Mo_step : gOK y_Mo_step b_Mo_step 4 (some FieldType.int) 3 := ⟨tb5 43 rfl rfl, tb1 13 rfl rfl, ⟨by decide +kernel, by decide +kernel⟩, by decide +kernel⟩
theorem im_Mo_step : Cond.instanceMethod y_Mo_step ∈ TB := tb5 41 rfl rfl
theorem se_Mo_step : Cond.selects "ProofGateModel" y_Mo_step y_Mo_step ∈ TB := tb5 42 rfl rfl
theorem ok_Mo_clear : gOK y_Mo_clear b_Mo_clear 2 (some FieldType.int) 0 := ⟨tb5 47 rfl rfl, tb1 13 rfl rfl, ⟨by decide +kernel, by decide +kernel⟩, by decide +kernel⟩
theorem im_Mo_clear : Cond.instanceMethod y_Mo_clear ∈ TB := tb5 45 rfl rfl
theorem se_Mo_clear : Cond.selects "ProofGateModel" y_Mo_clear y_Mo_clear ∈ TB := tb5 46 rfl rfl
theorem ok_Mo_steps : gOK y_Mo_steps b_Mo_steps 1 (some FieldType.int) 0 := ⟨tb5 51 rfl rfl, tb1 13 rfl rfl, ⟨by decide +kernel, by decide +kernel⟩, by decide +kernel⟩
theorem im_Mo_steps : Cond.instanceMethod y_Mo_steps ∈ TB := tb5 49 rfl rfl
theorem se_Mo_steps : Cond.selects "ProofGateModel" y_Mo_steps y_Mo_steps ∈ TB := tb5 50 rfl rfl
theorem ok_Mo_stepAt : gOK y_Mo_stepAt b_Mo_stepAt 3 (some FieldType.int) 2 := ⟨tb5 55 rfl rfl, tb1 13 rfl rfl, ⟨by decide +kernel, by decide +kernel⟩, by decide +kernel⟩
theorem im_Mo_stepAt : Cond.instanceMethod y_Mo_stepAt ∈ TB := tb5 53 rfl rfl
theorem se_Mo_stepAt : Cond.selects "ProofGateModel" y_Mo_stepAt y_Mo_stepAt ∈ TB := tb5 54 rfl rfl
theorem ok_Mo_prove : gOK y_Mo_prove b_Mo_prove 6 (some FieldType.int) 3 := ⟨tb5 59 rfl rfl, tb1 13 rfl rfl, ⟨by decide +kernel, by decide +kernel⟩, by decide +kernel⟩
theorem im_Mo_prove : Cond.instanceMethod y_Mo_prove ∈ TB := tb5 57 rfl rfl
theorem se_Mo_prove : Cond.selects "ProofGateModel" y_Mo_prove y_Mo_prove ∈ TB := tb5 58 rfl rfl
theorem ok_Mo_isGoal : gOK y_Mo_isGoal b_Mo_isGoal 4 (some FieldType.boolean) 3 := ⟨tb5 63 rfl rfl, tb1 13 rfl rfl, ⟨by decide +kernel, by decide +kernel⟩, by decide +kernel⟩
theorem im_Mo_isGoal : Cond.instanceMethod y_Mo_isGoal ∈ TB := tb5 62 rfl rfl
theorem se_Mo_isGoal : Cond.selects "ProofGateModel" y_Mo_isGoal y_Mo_isGoal ∈ TB := sp4 (q := (y_Mo_isGoal, 38)) 10 rfl
theorem ok_Mo_sayer : gOK y_Mo_sayer b_Mo_sayer 3 (some FieldType.int) 2 := ⟨tb5 67 rfl rfl, tb1 13 rfl rfl, ⟨by decide +kernel, by decide +kernel⟩, by decide +kernel⟩
theorem im_Mo_sayer : Cond.instanceMethod y_Mo_sayer ∈ TB := tb5 66 rfl rfl
theorem se_Mo_sayer : Cond.selects "ProofGateModel" y_Mo_sayer y_Mo_sayer ∈ TB := sp4 (q := (y_Mo_sayer, 38)) 11 rfl
theorem ok_Mo_may : gOK y_Mo_may b_Mo_may 3 (some FieldType.int) 3 := ⟨tb5 70 rfl rfl, tb1 13 rfl rfl, ⟨by decide +kernel, by decide +kernel⟩, by decide +kernel⟩
theorem st_Mo_may : Cond.static y_Mo_may ∈ TB := tb5 69 rfl rfl
theorem ok_Mo_proof : gOK y_Mo_proof b_Mo_proof 7 (some FieldType.int) 2 := ⟨tb5 74 rfl rfl, tb1 13 rfl rfl, ⟨by decide +kernel, by decide +kernel⟩, by decide +kernel⟩
theorem im_Mo_proof : Cond.instanceMethod y_Mo_proof ∈ TB := tb5 73 rfl rfl
theorem se_Mo_proof : Cond.selects "ProofGateModel" y_Mo_proof y_Mo_proof ∈ TB := sp4 (q := (y_Mo_proof, 38)) 12 rfl
theorem ok_Mo_said : gOK y_Mo_said b_Mo_said 3 none 0 := ⟨tb5 78 rfl rfl, tb1 13 rfl rfl, ⟨by decide +kernel, by decide +kernel⟩, by decide +kernel⟩
theorem im_Mo_said : Cond.instanceMethod y_Mo_said ∈ TB := tb5 77 rfl rfl
theorem se_Mo_said : Cond.selects "ProofGateModel" y_Mo_said y_Mo_said ∈ TB := sp4 (q := (y_Mo_said, 38)) 13 rfl
theorem ok_Mo_holds : gOK y_Mo_holds b_Mo_holds 2 (some FieldType.boolean) 1 := ⟨tb5 82 rfl rfl, tb1 13 rfl rfl, ⟨by decide +kernel, by decide +kernel⟩, by decide +kernel⟩
theorem im_Mo_holds : Cond.instanceMethod y_Mo_holds ∈ TB := tb5 81 rfl rfl
theorem se_Mo_holds : Cond.selects "ProofGateModel" y_Mo_holds y_Mo_holds ∈ TB := sp4 (q := (y_Mo_holds, 38)) 14 rfl
theorem ok_Mo_speaks : gOK y_Mo_speaks b_Mo_speaks 2 (some FieldType.int) 2 := ⟨tb5 85 rfl rfl, tb1 13 rfl rfl, ⟨by decide +kernel, by decide +kernel⟩, by decide +kernel⟩
theorem st_Mo_speaks : Cond.static y_Mo_speaks ∈ TB := tb5 84 rfl rfl
theorem ok_Mo_trusts : gOK y_Mo_trusts b_Mo_trusts 4 (some FieldType.int) 4 := ⟨tb5 88 rfl rfl, tb1 13 rfl rfl, ⟨by decide +kernel, by decide +kernel⟩, by decide +kernel⟩
theorem st_Mo_trusts : Cond.static y_Mo_trusts ∈ TB := tb5 87 rfl rfl
theorem ok_Mo_finds : gOK y_Mo_finds b_Mo_finds 5 (some FieldType.boolean) 4 := ⟨tb5 92 rfl rfl, tb1 13 rfl rfl, ⟨by decide +kernel, by decide +kernel⟩, by decide +kernel⟩
theorem im_Mo_finds : Cond.instanceMethod y_Mo_finds ∈ TB := tb5 91 rfl rfl
theorem se_Mo_finds : Cond.selects "ProofGateModel" y_Mo_finds y_Mo_finds ∈ TB := sp4 (q := (y_Mo_finds, 38)) 15 rfl
theorem ok_Mo_goesOn : gOK y_Mo_goesOn b_Mo_goesOn 8 (some FieldType.boolean) 0 := ⟨tb5 96 rfl rfl, tb1 13 rfl rfl, ⟨by decide +kernel, by decide +kernel⟩, by decide +kernel⟩
theorem im_Mo_goesOn : Cond.instanceMethod y_Mo_goesOn ∈ TB := tb5 95 rfl rfl
theorem se_Mo_goesOn : Cond.selects "ProofGateModel" y_Mo_goesOn y_Mo_goesOn ∈ TB := sp5 (q := (y_Mo_goesOn, 38)) 0 rfl
theorem ok_Mo_newMay : gOK y_Mo_newMay b_Mo_newMay 7 (some FieldType.boolean) 3 := ⟨tb5 100 rfl rfl, tb1 13 rfl rfl, ⟨by decide +kernel, by decide +kernel⟩, by decide +kernel⟩
theorem im_Mo_newMay : Cond.instanceMethod y_Mo_newMay ∈ TB := tb5 99 rfl rfl
theorem se_Mo_newMay : Cond.selects "ProofGateModel" y_Mo_newMay y_Mo_newMay ∈ TB := sp5 (q := (y_Mo_newMay, 38)) 1 rfl
theorem ok_Mo_had : gOK y_Mo_had b_Mo_had 2 (some FieldType.boolean) 1 := ⟨tb5 104 rfl rfl, tb1 13 rfl rfl, ⟨by decide +kernel, by decide +kernel⟩, by decide +kernel⟩
theorem im_Mo_had : Cond.instanceMethod y_Mo_had ∈ TB := tb5 103 rfl rfl
theorem se_Mo_had : Cond.selects "ProofGateModel" y_Mo_had y_Mo_had ∈ TB := sp5 (q := (y_Mo_had, 38)) 2 rfl
theorem ok_Mo_newTrust : gOK y_Mo_newTrust b_Mo_newTrust 10 (some FieldType.boolean) 4 := ⟨tb5 108 rfl rfl, tb1 13 rfl rfl, ⟨by decide +kernel, by decide +kernel⟩, by decide +kernel⟩
theorem im_Mo_newTrust : Cond.instanceMethod y_Mo_newTrust ∈ TB := tb5 107 rfl rfl
theorem se_Mo_newTrust : Cond.selects "ProofGateModel" y_Mo_newTrust y_Mo_newTrust ∈ TB := sp5 (q := (y_Mo_newTrust, 38)) 3 rfl
theorem ok_Mo_newVoice : gOK y_Mo_newVoice b_Mo_newVoice 5 (some FieldType.boolean) 2 := ⟨tb5 112 rfl rfl, tb1 13 rfl rfl, ⟨by decide +kernel, by decide +kernel⟩, by decide +kernel⟩
theorem im_Mo_newVoice : Cond.instanceMethod y_Mo_newVoice ∈ TB := tb5 111 rfl rfl
theorem se_Mo_newVoice : Cond.selects "ProofGateModel" y_Mo_newVoice y_Mo_newVoice ∈ TB := sp5 (q := (y_Mo_newVoice, 38)) 4 rfl
theorem ok_Mo_needed : gOK y_Mo_needed b_Mo_needed 2 (some FieldType.int) 1 := ⟨tb5 116 rfl rfl, tb1 13 rfl rfl, ⟨by decide +kernel, by decide +kernel⟩, by decide +kernel⟩
theorem im_Mo_needed : Cond.instanceMethod y_Mo_needed ∈ TB := tb5 115 rfl rfl
theorem se_Mo_needed : Cond.selects "ProofGateModel" y_Mo_needed y_Mo_needed ∈ TB := sp5 (q := (y_Mo_needed, 38)) 5 rfl
theorem ok_Mo_note : gOK y_Mo_note b_Mo_note 2 none 1 := ⟨tb5 120 rfl rfl, tb1 13 rfl rfl, ⟨by decide +kernel, by decide +kernel⟩, by decide +kernel⟩
theorem im_Mo_note : Cond.instanceMethod y_Mo_note ∈ TB := tb5 119 rfl rfl
theorem se_Mo_note : Cond.selects "ProofGateModel" y_Mo_note y_Mo_note ∈ TB := sp5 (q := (y_Mo_note, 38)) 6 rfl
theorem ok_Mo_check : gOK y_Mo_check b_Mo_check 4 (some FieldType.boolean) 3 := ⟨tb5 124 rfl rfl, tb1 13 rfl rfl, ⟨by decide +kernel, by decide +kernel⟩, by decide +kernel⟩
theorem im_Mo_check : Cond.instanceMethod y_Mo_check ∈ TB := tb5 122 rfl rfl
theorem se_Mo_check : Cond.selects "ProofGateModel" y_Mo_check y_Mo_check ∈ TB := tb5 123 rfl rfl
theorem ok_Mo_proves : gOK y_Mo_proves b_Mo_proves 7 (some FieldType.boolean) 4 := ⟨tb5 128 rfl rfl, tb1 13 rfl rfl, ⟨by decide +kernel, by decide +kernel⟩, by decide +kernel⟩
theorem im_Mo_proves : Cond.instanceMethod y_Mo_proves ∈ TB := tb5 127 rfl rfl
theorem se_Mo_proves : Cond.selects "ProofGateModel" y_Mo_proves y_Mo_proves ∈ TB := sp5 (q := (y_Mo_proves, 38)) 7 rfl
theorem ok_Mo_proved : gOK y_Mo_proved b_Mo_proved 12 (some FieldType.int) 1 := ⟨tb5 132 rfl rfl, tb1 13 rfl rfl, ⟨by decide +kernel, by decide +kernel⟩, by decide +kernel⟩
theorem im_Mo_proved : Cond.instanceMethod y_Mo_proved ∈ TB := tb5 131 rfl rfl
theorem se_Mo_proved : Cond.selects "ProofGateModel" y_Mo_proved y_Mo_proved ∈ TB := sp5 (q := (y_Mo_proved, 38)) 8 rfl
theorem ok_Mo_spoken : gOK y_Mo_spoken b_Mo_spoken 2 (some FieldType.int) 1 := ⟨tb5 136 rfl rfl, tb1 13 rfl rfl, ⟨by decide +kernel, by decide +kernel⟩, by decide +kernel⟩
theorem im_Mo_spoken : Cond.instanceMethod y_Mo_spoken ∈ TB := tb5 135 rfl rfl
theorem se_Mo_spoken : Cond.selects "ProofGateModel" y_Mo_spoken y_Mo_spoken ∈ TB := sp5 (q := (y_Mo_spoken, 38)) 9 rfl
theorem ok_Mo_fact : gOK y_Mo_fact b_Mo_fact 6 (some FieldType.int) 6 := ⟨tb5 139 rfl rfl, tb1 13 rfl rfl, ⟨by decide +kernel, by decide +kernel⟩, by decide +kernel⟩
theorem st_Mo_fact : Cond.static y_Mo_fact ∈ TB := tb5 138 rfl rfl
theorem ok_Mo_stepFact : gOK y_Mo_stepFact b_Mo_stepFact 3 (some FieldType.int) 2 := ⟨tb5 143 rfl rfl, tb1 13 rfl rfl, ⟨by decide +kernel, by decide +kernel⟩, by decide +kernel⟩
theorem im_Mo_stepFact : Cond.instanceMethod y_Mo_stepFact ∈ TB := tb5 142 rfl rfl
theorem se_Mo_stepFact : Cond.selects "ProofGateModel" y_Mo_stepFact y_Mo_stepFact ∈ TB := sp5 (q := (y_Mo_stepFact, 38)) 10 rfl
theorem ok_Mo_item : gOK y_Mo_item b_Mo_item 2 (some FieldType.int) 2 := ⟨tb5 146 rfl rfl, tb1 13 rfl rfl, ⟨by decide +kernel, by decide +kernel⟩, by decide +kernel⟩
theorem st_Mo_item : Cond.static y_Mo_item ∈ TB := tb5 145 rfl rfl
theorem ok_Mo_request : gOK y_Mo_request b_Mo_request 8 (some FieldType.int) 5 := ⟨tb5 150 rfl rfl, tb1 13 rfl rfl, ⟨by decide +kernel, by decide +kernel⟩, by decide +kernel⟩
theorem im_Mo_request : Cond.instanceMethod y_Mo_request ∈ TB := tb5 148 rfl rfl
theorem se_Mo_request : Cond.selects "ProofGateModel" y_Mo_request y_Mo_request ∈ TB := tb5 149 rfl rfl
theorem ok_Mo_done : gOK y_Mo_done b_Mo_done 6 (some FieldType.int) 4 := ⟨tb5 154 rfl rfl, tb1 13 rfl rfl, ⟨by decide +kernel, by decide +kernel⟩, by decide +kernel⟩
theorem im_Mo_done : Cond.instanceMethod y_Mo_done ∈ TB := tb5 153 rfl rfl
theorem se_Mo_done : Cond.selects "ProofGateModel" y_Mo_done y_Mo_done ∈ TB := sp5 (q := (y_Mo_done, 38)) 11 rfl
theorem ok_Mo_pass : gOK y_Mo_pass b_Mo_pass 2 (some FieldType.int) 1 := ⟨tb5 158 rfl rfl, tb1 13 rfl rfl, ⟨by decide +kernel, by decide +kernel⟩, by decide +kernel⟩
theorem im_Mo_pass : Cond.instanceMethod y_Mo_pass ∈ TB := tb5 156 rfl rfl
theorem se_Mo_pass : Cond.selects "ProofGateModel" y_Mo_pass y_Mo_pass ∈ TB := tb5 157 rfl rfl
theorem ok_Mo_owner : gOK y_Mo_owner b_Mo_owner 2 (some FieldType.int) 1 := ⟨tb5 162 rfl rfl, tb1 13 rfl rfl, ⟨by decide +kernel, by decide +kernel⟩, by decide +kernel⟩
theorem im_Mo_owner : Cond.instanceMethod y_Mo_owner ∈ TB := tb5 160 rfl rfl
theorem se_Mo_owner : Cond.selects "ProofGateModel" y_Mo_owner y_Mo_owner ∈ TB := tb5 161 rfl rfl
theorem ok_Mo_credentials : gOK y_Mo_credentials b_Mo_credentials 1 (some FieldType.int) 0 := ⟨tb5 166 rfl rfl, tb1 13 rfl rfl, ⟨by decide +kernel, by decide +kernel⟩, by decide +kernel⟩
theorem im_Mo_credentials : Cond.instanceMethod y_Mo_credentials ∈ TB := tb5 164 rfl rfl
theorem se_Mo_credentials : Cond.selects "ProofGateModel" y_Mo_credentials y_Mo_credentials ∈ TB := tb5 165 rfl rfl
theorem ok_Mo_valid : gOK y_Mo_valid b_Mo_valid 2 (some FieldType.boolean) 1 := ⟨tb5 170 rfl rfl, tb1 13 rfl rfl, ⟨by decide +kernel, by decide +kernel⟩, by decide +kernel⟩
theorem im_Mo_valid : Cond.instanceMethod y_Mo_valid ∈ TB := tb5 168 rfl rfl
theorem se_Mo_valid : Cond.selects "ProofGateModel" y_Mo_valid y_Mo_valid ∈ TB := tb5 169 rfl rfl
theorem ok_Mo_grants : gOK y_Mo_grants b_Mo_grants 1 (some FieldType.int) 0 := ⟨tb5 174 rfl rfl, tb1 13 rfl rfl, ⟨by decide +kernel, by decide +kernel⟩, by decide +kernel⟩
theorem im_Mo_grants : Cond.instanceMethod y_Mo_grants ∈ TB := tb5 172 rfl rfl
theorem se_Mo_grants : Cond.selects "ProofGateModel" y_Mo_grants y_Mo_grants ∈ TB := tb5 173 rfl rfl
theorem ok_Mo_chain : gOK y_Mo_chain b_Mo_chain 1 (some FieldType.int) 0 := ⟨tb5 178 rfl rfl, tb1 13 rfl rfl, ⟨by decide +kernel, by decide +kernel⟩, by decide +kernel⟩
theorem im_Mo_chain : Cond.instanceMethod y_Mo_chain ∈ TB := tb5 176 rfl rfl
theorem se_Mo_chain : Cond.selects "ProofGateModel" y_Mo_chain y_Mo_chain ∈ TB := tb5 177 rfl rfl
theorem ii_Lw : Cond.initialized "ProofGateLaw" ∈ TB := tb1 0 rfl rfl
theorem ii_Ga : Cond.initialized "ProofGate" ∈ TB := tb1 1 rfl rfl
theorem ii_Cs : Cond.initialized "ProofGate$Credentials" ∈ TB := tb1 2 rfl rfl
theorem ii_Ac : Cond.initialized "java/util/AbstractCollection" ∈ TB := tb1 3 rfl rfl
theorem ii_Ab : Cond.initialized "java/util/AbstractList" ∈ TB := tb1 4 rfl rfl
theorem ii_AL : Cond.initialized "java/util/ArrayList" ∈ TB := tb1 5 rfl rfl
theorem ii_Pf : Cond.initialized "ProofGate$Proof" ∈ TB := tb1 6 rfl rfl
theorem ii_Pv : Cond.initialized "ProofGate$Prover" ∈ TB := tb1 7 rfl rfl
theorem ii_Ck : Cond.initialized "ProofGate$Checker" ∈ TB := tb1 8 rfl rfl
theorem ii_Fa : Cond.initialized "ProofGate$Fact" ∈ TB := tb1 9 rfl rfl
theorem ii_Lg : Cond.initialized "ProofGate$AuditLog" ∈ TB := tb1 10 rfl rfl
theorem ii_Fu : Cond.initialized "ProofGate$Fuse" ∈ TB := tb1 11 rfl rfl
theorem ii_Ar : Cond.initialized "java/util/Arrays" ∈ TB := tb1 12 rfl rfl
theorem ii_Mo : Cond.initialized "ProofGateModel" ∈ TB := tb1 13 rfl rfl
theorem ii_Cr : Cond.initialized "ProofGate$Credential" ∈ TB := tb1 14 rfl rfl
theorem ii_As : Cond.initialized "jdk/internal/util/ArraysSupport" ∈ TB := tb1 21 rfl rfl
theorem ii_Ma : Cond.initialized "java/lang/Math" ∈ TB := tb1 22 rfl rfl
theorem ii_Sy : Cond.initialized "java/lang/System" ∈ TB := tb1 23 rfl rfl
theorem ii_Ob : Cond.initialized "java/util/Objects" ∈ TB := tb1 24 rfl rfl
theorem ii_Pr : Cond.initialized "jdk/internal/util/Preconditions" ∈ TB := tb1 25 rfl rfl
theorem cl_Lw_8 : Cond.classLink "ProofGateLaw" 8 "ProofGate" ∈ TB := tb1 27 rfl rfl
theorem in_Ga : Cond.instantiable "ProofGate" 10 ∈ TB := tb1 28 rfl rfl
theorem ml_Lw_35 : gMl "ProofGateLaw" 35 y_Ga_init := Or.inl (tb1 29 rfl rfl)
theorem ml_Ga_1 : gMl "ProofGate" 1 y_Jo_init := Or.inl (tb1 32 rfl rfl)
theorem mo_Ga_1 : Cond.methodLink "ProofGate" 1 Lib.objectInit ∈ TB := tb1 32 rfl rfl
theorem oi_im : Cond.instanceMethod Lib.objectInit ∈ TB := tb1 33 rfl rfl
theorem oi_co : Cond.code Lib.objectInit ⟨#[0xb1]⟩ 1 none ∈ TB := tb1 34 rfl rfl
theorem cl_Ga_15 : Cond.classLink "ProofGate" 15 "ProofGate$Credentials" ∈ TB := tb1 35 rfl rfl
theorem in_Cs : Cond.instantiable "ProofGate$Credentials" 2 ∈ TB := tb1 36 rfl rfl
theorem ml_Ga_17 : gMl "ProofGate" 17 y_Cs_init := Or.inr ⟨"ProofGate", nb1 37 rfl rfl⟩
theorem ml_Cs_1 : gMl "ProofGate$Credentials" 1 y_Jo_init := Or.inl (tb1 40 rfl rfl)
theorem mo_Cs_1 : Cond.methodLink "ProofGate$Credentials" 1 Lib.objectInit ∈ TB := tb1 40 rfl rfl
theorem cl_Cs_7 : Cond.classLink "ProofGate$Credentials" 7 "java/util/ArrayList" ∈ TB := tb1 41 rfl rfl
theorem in_AL : Cond.instantiable "java/util/ArrayList" 3 ∈ TB := tb1 42 rfl rfl
theorem ml_Cs_9 : gMl "ProofGate$Credentials" 9 y_AL_init := Or.inl (tb1 43 rfl rfl)
theorem ml_AL_1 : gMl "java/util/ArrayList" 1 y_Ab_init := Or.inl (tb1 46 rfl rfl)
theorem ml_Ab_1 : gMl "java/util/AbstractList" 1 y_Ac_init := Or.inl (tb1 49 rfl rfl)
theorem ml_Ac_1 : gMl "java/util/AbstractCollection" 1 y_Jo_init := Or.inl (tb1 52 rfl rfl)
theorem mo_Ac_1 : Cond.methodLink "java/util/AbstractCollection" 1 Lib.objectInit ∈ TB := tb1 52 rfl rfl
theorem ff_AL_39 : Cond.fieldLink "java/util/ArrayList" 39 "java/util/ArrayList" "DEFAULTCAPACITY_EMPTY_ELEMENTDATA" "[Ljava/lang/Object;" ∈ TB := tb1 53 rfl rfl
theorem fl_AL_39 : gFl "java/util/ArrayList" 39 "java/util/ArrayList" "DEFAULTCAPACITY_EMPTY_ELEMENTDATA" "[Ljava/lang/Object;" := Or.inl ff_AL_39
theorem ff_AL_9 : Cond.fieldLink "java/util/ArrayList" 9 "java/util/ArrayList" "elementData" "[Ljava/lang/Object;" ∈ TB := tb1 55 rfl rfl
theorem fl_AL_9 : gFl "java/util/ArrayList" 9 "java/util/ArrayList" "elementData" "[Ljava/lang/Object;" := Or.inl ff_AL_9
theorem ff_AL_48 : Cond.fieldLink "java/util/ArrayList" 48 "java/util/ArrayList" "size" "I" ∈ TB := tb1 56 rfl rfl
theorem fl_AL_48 : gFl "java/util/ArrayList" 48 "java/util/ArrayList" "size" "I" := Or.inl ff_AL_48
theorem ff_Ab_7 : Cond.fieldLink "java/util/AbstractList" 7 "java/util/AbstractList" "modCount" "I" ∈ TB := tb1 57 rfl rfl
theorem fl_Ab_7 : gFl "java/util/AbstractList" 7 "java/util/AbstractList" "modCount" "I" := Or.inl ff_Ab_7
theorem ff_AL_63 : Cond.fieldLink "java/util/ArrayList" 63 "java/util/ArrayList" "modCount" "I" ∈ TB := tb1 58 rfl rfl
theorem fl_AL_63 : gFl "java/util/ArrayList" 63 "java/util/ArrayList" "modCount" "I" := Or.inl ff_AL_63
theorem ac_int : Cond.arrayClass .int ∈ TB := tb1 67 rfl rfl
theorem ff_Cs_10 : Cond.fieldLink "ProofGate$Credentials" 10 "ProofGate$Credentials" "taken" "Ljava/util/ArrayList;" ∈ TB := tb1 68 rfl rfl
theorem fl_Cs_10 : gFl "ProofGate$Credentials" 10 "ProofGate$Credentials" "taken" "Ljava/util/ArrayList;" := Or.inl ff_Cs_10
theorem ff_Cs_24 : Cond.fieldLink "ProofGate$Credentials" 24 "ProofGate$Credentials" "time" "I" ∈ TB := tb1 69 rfl rfl
theorem fl_Cs_24 : gFl "ProofGate$Credentials" 24 "ProofGate$Credentials" "time" "I" := Or.inl ff_Cs_24
theorem cl_Ga_22 : Cond.classLink "ProofGate" 22 "ProofGate$Proof" ∈ TB := tb1 75 rfl rfl
theorem in_Pf : Cond.instantiable "ProofGate$Proof" 4 ∈ TB := tb1 76 rfl rfl
theorem ml_Ga_24 : gMl "ProofGate" 24 y_Pf_init := Or.inr ⟨"ProofGate", nb1 77 rfl rfl⟩
theorem ml_Pf_3 : gMl "ProofGate$Proof" 3 y_Jo_init := Or.inl (tb1 80 rfl rfl)
theorem mo_Pf_3 : Cond.methodLink "ProofGate$Proof" 3 Lib.objectInit ∈ TB := tb1 80 rfl rfl
theorem ff_Pf_9 : Cond.fieldLink "ProofGate$Proof" 9 "ProofGate$Proof" "rules" "[I" ∈ TB := tb1 81 rfl rfl
theorem fl_Pf_9 : gFl "ProofGate$Proof" 9 "ProofGate$Proof" "rules" "[I" := Or.inl ff_Pf_9
theorem ff_Pf_15 : Cond.fieldLink "ProofGate$Proof" 15 "ProofGate$Proof" "xs" "[I" ∈ TB := tb1 82 rfl rfl
theorem fl_Pf_15 : gFl "ProofGate$Proof" 15 "ProofGate$Proof" "xs" "[I" := Or.inl ff_Pf_15
theorem ff_Pf_18 : Cond.fieldLink "ProofGate$Proof" 18 "ProofGate$Proof" "ys" "[I" ∈ TB := tb1 83 rfl rfl
theorem fl_Pf_18 : gFl "ProofGate$Proof" 18 "ProofGate$Proof" "ys" "[I" := Or.inl ff_Pf_18
theorem ff_Pf_21 : Cond.fieldLink "ProofGate$Proof" 21 "ProofGate$Proof" "length" "I" ∈ TB := tb1 84 rfl rfl
theorem fl_Pf_21 : gFl "ProofGate$Proof" 21 "ProofGate$Proof" "length" "I" := Or.inl ff_Pf_21
theorem cl_Ga_29 : Cond.classLink "ProofGate" 29 "ProofGate$Prover" ∈ TB := tb1 94 rfl rfl
theorem in_Pv : Cond.instantiable "ProofGate$Prover" 9 ∈ TB := tb1 95 rfl rfl
theorem ml_Ga_31 : gMl "ProofGate" 31 y_Pv_init := Or.inr ⟨"ProofGate", nb1 96 rfl rfl⟩
theorem ml_Pv_5 : gMl "ProofGate$Prover" 5 y_Jo_init := Or.inl (tb1 99 rfl rfl)
theorem mo_Pv_5 : Cond.methodLink "ProofGate$Prover" 5 Lib.objectInit ∈ TB := tb1 99 rfl rfl
theorem cl_Pv_11 : Cond.classLink "ProofGate$Prover" 11 "ProofGate$Proof" ∈ TB := tb1 100 rfl rfl
theorem ml_Pv_13 : gMl "ProofGate$Prover" 13 y_Pf_init := Or.inr ⟨"ProofGate", nb1 101 rfl rfl⟩
theorem ff_Pv_34 : Cond.fieldLink "ProofGate$Prover" 34 "ProofGate$Prover" "held" "LProofGate$Credentials;" ∈ TB := tb1 102 rfl rfl
theorem fl_Pv_34 : gFl "ProofGate$Prover" 34 "ProofGate$Prover" "held" "LProofGate$Credentials;" := Or.inl ff_Pv_34
theorem ff_Pv_14 : Cond.fieldLink "ProofGate$Prover" 14 "ProofGate$Prover" "written" "LProofGate$Proof;" ∈ TB := tb1 103 rfl rfl
theorem fl_Pv_14 : gFl "ProofGate$Prover" 14 "ProofGate$Prover" "written" "LProofGate$Proof;" := Or.inl ff_Pv_14
theorem ff_Pv_18 : Cond.fieldLink "ProofGate$Prover" 18 "ProofGate$Prover" "roundOf" "[I" ∈ TB := tb1 104 rfl rfl
theorem fl_Pv_18 : gFl "ProofGate$Prover" 18 "ProofGate$Prover" "roundOf" "[I" := Or.inl ff_Pv_18
theorem ff_Pv_22 : Cond.fieldLink "ProofGate$Prover" 22 "ProofGate$Prover" "ruleOf" "[I" ∈ TB := tb1 105 rfl rfl
theorem fl_Pv_22 : gFl "ProofGate$Prover" 22 "ProofGate$Prover" "ruleOf" "[I" := Or.inl ff_Pv_22
theorem ff_Pv_25 : Cond.fieldLink "ProofGate$Prover" 25 "ProofGate$Prover" "firstOf" "[I" ∈ TB := tb1 106 rfl rfl
theorem fl_Pv_25 : gFl "ProofGate$Prover" 25 "ProofGate$Prover" "firstOf" "[I" := Or.inl ff_Pv_25
theorem ff_Pv_28 : Cond.fieldLink "ProofGate$Prover" 28 "ProofGate$Prover" "secondOf" "[I" ∈ TB := tb1 107 rfl rfl
theorem fl_Pv_28 : gFl "ProofGate$Prover" 28 "ProofGate$Prover" "secondOf" "[I" := Or.inl ff_Pv_28
theorem ff_Pv_31 : Cond.fieldLink "ProofGate$Prover" 31 "ProofGate$Prover" "stepOf" "[I" ∈ TB := tb1 108 rfl rfl
theorem fl_Pv_31 : gFl "ProofGate$Prover" 31 "ProofGate$Prover" "stepOf" "[I" := Or.inl ff_Pv_31
theorem ff_Pv_62 : Cond.fieldLink "ProofGate$Prover" 62 "ProofGate$Prover" "round" "I" ∈ TB := tb1 109 rfl rfl
theorem fl_Pv_62 : gFl "ProofGate$Prover" 62 "ProofGate$Prover" "round" "I" := Or.inl ff_Pv_62
theorem ff_Pv_66 : Cond.fieldLink "ProofGate$Prover" 66 "ProofGate$Prover" "foundSome" "Z" ∈ TB := tb1 110 rfl rfl
theorem fl_Pv_66 : gFl "ProofGate$Prover" 66 "ProofGate$Prover" "foundSome" "Z" := Or.inl ff_Pv_66
theorem cl_Ga_38 : Cond.classLink "ProofGate" 38 "ProofGate$Checker" ∈ TB := tb1 130 rfl rfl
theorem in_Ck : Cond.instantiable "ProofGate$Checker" 2 ∈ TB := tb1 131 rfl rfl
theorem ml_Ga_40 : gMl "ProofGate" 40 y_Ck_init := Or.inr ⟨"ProofGate", nb1 132 rfl rfl⟩
theorem ml_Ck_3 : gMl "ProofGate$Checker" 3 y_Jo_init := Or.inl (tb1 135 rfl rfl)
theorem mo_Ck_3 : Cond.methodLink "ProofGate$Checker" 3 Lib.objectInit ∈ TB := tb1 135 rfl rfl
theorem cl_Ck_9 : Cond.classLink "ProofGate$Checker" 9 "ProofGate$Fact" ∈ TB := tb1 136 rfl rfl
theorem in_Fa : Cond.instantiable "ProofGate$Fact" 6 ∈ TB := tb1 138 rfl rfl
theorem ml_Ck_21 : gMl "ProofGate$Checker" 21 y_Fa_init := Or.inr ⟨"ProofGate", nb1 139 rfl rfl⟩
theorem ml_Fa_3 : gMl "ProofGate$Fact" 3 y_Jo_init := Or.inl (tb1 142 rfl rfl)
theorem mo_Fa_3 : Cond.methodLink "ProofGate$Fact" 3 Lib.objectInit ∈ TB := tb1 142 rfl rfl
theorem ff_Fa_15 : Cond.fieldLink "ProofGate$Fact" 15 "ProofGate$Fact" "kind" "I" ∈ TB := tb1 143 rfl rfl
theorem fl_Fa_15 : gFl "ProofGate$Fact" 15 "ProofGate$Fact" "kind" "I" := Or.inl ff_Fa_15
theorem fl_Ck_73 : gFl "ProofGate$Checker" 73 "ProofGate$Fact" "kind" "I" := Or.inr ⟨"ProofGate", nb1 144 rfl rfl⟩
theorem ff_Fa_21 : Cond.fieldLink "ProofGate$Fact" 21 "ProofGate$Fact" "of" "I" ∈ TB := tb1 145 rfl rfl
theorem fl_Fa_21 : gFl "ProofGate$Fact" 21 "ProofGate$Fact" "of" "I" := Or.inl ff_Fa_21
theorem fl_Ck_74 : gFl "ProofGate$Checker" 74 "ProofGate$Fact" "of" "I" := Or.inr ⟨"ProofGate", nb1 146 rfl rfl⟩
theorem ff_Fa_28 : Cond.fieldLink "ProofGate$Fact" 28 "ProofGate$Fact" "to" "I" ∈ TB := tb1 147 rfl rfl
theorem fl_Fa_28 : gFl "ProofGate$Fact" 28 "ProofGate$Fact" "to" "I" := Or.inl ff_Fa_28
theorem fl_Ck_111 : gFl "ProofGate$Checker" 111 "ProofGate$Fact" "to" "I" := Or.inr ⟨"ProofGate", nb1 148 rfl rfl⟩
theorem ff_Fa_31 : Cond.fieldLink "ProofGate$Fact" 31 "ProofGate$Fact" "right" "I" ∈ TB := tb1 149 rfl rfl
theorem fl_Fa_31 : gFl "ProofGate$Fact" 31 "ProofGate$Fact" "right" "I" := Or.inl ff_Fa_31
theorem fl_Ck_80 : gFl "ProofGate$Checker" 80 "ProofGate$Fact" "right" "I" := Or.inr ⟨"ProofGate", nb1 150 rfl rfl⟩
theorem ff_Fa_34 : Cond.fieldLink "ProofGate$Fact" 34 "ProofGate$Fact" "object" "I" ∈ TB := tb1 151 rfl rfl
theorem fl_Fa_34 : gFl "ProofGate$Fact" 34 "ProofGate$Fact" "object" "I" := Or.inl ff_Fa_34
theorem ff_Fa_37 : Cond.fieldLink "ProofGate$Fact" 37 "ProofGate$Fact" "depth" "I" ∈ TB := tb1 152 rfl rfl
theorem fl_Fa_37 : gFl "ProofGate$Fact" 37 "ProofGate$Fact" "depth" "I" := Or.inl ff_Fa_37
theorem fl_Ck_102 : gFl "ProofGate$Checker" 102 "ProofGate$Fact" "depth" "I" := Or.inr ⟨"ProofGate", nb1 153 rfl rfl⟩
theorem ff_Ck_17 : Cond.fieldLink "ProofGate$Checker" 17 "ProofGate$Checker" "held" "LProofGate$Credentials;" ∈ TB := tb1 167 rfl rfl
theorem fl_Ck_17 : gFl "ProofGate$Checker" 17 "ProofGate$Checker" "held" "LProofGate$Credentials;" := Or.inl ff_Ck_17
theorem ff_Ck_11 : Cond.fieldLink "ProofGate$Checker" 11 "ProofGate$Checker" "facts" "[LProofGate$Fact;" ∈ TB := tb1 168 rfl rfl
theorem fl_Ck_11 : gFl "ProofGate$Checker" 11 "ProofGate$Checker" "facts" "[LProofGate$Fact;" := Or.inl ff_Ck_11
theorem cl_Ga_45 : Cond.classLink "ProofGate" 45 "ProofGate$AuditLog" ∈ TB := tb1 174 rfl rfl
theorem in_Lg : Cond.instantiable "ProofGate$AuditLog" 2 ∈ TB := tb1 175 rfl rfl
theorem ml_Ga_47 : gMl "ProofGate" 47 y_Lg_init := Or.inr ⟨"ProofGate", nb1 176 rfl rfl⟩
theorem ml_Lg_1 : gMl "ProofGate$AuditLog" 1 y_Jo_init := Or.inl (tb1 179 rfl rfl)
theorem mo_Lg_1 : Cond.methodLink "ProofGate$AuditLog" 1 Lib.objectInit ∈ TB := tb1 179 rfl rfl
theorem ff_Lg_7 : Cond.fieldLink "ProofGate$AuditLog" 7 "ProofGate$AuditLog" "count" "I" ∈ TB := tb1 180 rfl rfl
theorem fl_Lg_7 : gFl "ProofGate$AuditLog" 7 "ProofGate$AuditLog" "count" "I" := Or.inl ff_Lg_7
theorem ff_Lg_13 : Cond.fieldLink "ProofGate$AuditLog" 13 "ProofGate$AuditLog" "link" "I" ∈ TB := tb1 181 rfl rfl
theorem fl_Lg_13 : gFl "ProofGate$AuditLog" 13 "ProofGate$AuditLog" "link" "I" := Or.inl ff_Lg_13
theorem cl_Ga_52 : Cond.classLink "ProofGate" 52 "ProofGate$Fuse" ∈ TB := tb1 187 rfl rfl
theorem in_Fu : Cond.instantiable "ProofGate$Fuse" 1 ∈ TB := tb1 188 rfl rfl
theorem ml_Ga_54 : gMl "ProofGate" 54 y_Fu_init := Or.inr ⟨"ProofGate", nb1 189 rfl rfl⟩
theorem ml_Fu_1 : gMl "ProofGate$Fuse" 1 y_Jo_init := Or.inl (tb1 192 rfl rfl)
theorem mo_Fu_1 : Cond.methodLink "ProofGate$Fuse" 1 Lib.objectInit ∈ TB := tb1 192 rfl rfl
theorem ff_Fu_9 : Cond.fieldLink "ProofGate$Fuse" 9 "ProofGate$Fuse" "left" "I" ∈ TB := tb1 193 rfl rfl
theorem fl_Fu_9 : gFl "ProofGate$Fuse" 9 "ProofGate$Fuse" "left" "I" := Or.inl ff_Fu_9
theorem ml_Ga_69 : gMl "ProofGate" 69 y_Ar_fill := Or.inl (tb1 197 rfl rfl)
theorem ff_Ga_65 : Cond.fieldLink "ProofGate" 65 "ProofGate" "secret" "I" ∈ TB := tb1 200 rfl rfl
theorem fl_Ga_65 : gFl "ProofGate" 65 "ProofGate" "secret" "I" := Or.inl ff_Ga_65
theorem ff_Ga_9 : Cond.fieldLink "ProofGate" 9 "ProofGate" "numbers" "[I" ∈ TB := tb1 201 rfl rfl
theorem fl_Ga_9 : gFl "ProofGate" 9 "ProofGate" "numbers" "[I" := Or.inl ff_Ga_9
theorem ff_Ga_18 : Cond.fieldLink "ProofGate" 18 "ProofGate" "held" "LProofGate$Credentials;" ∈ TB := tb1 202 rfl rfl
theorem fl_Ga_18 : gFl "ProofGate" 18 "ProofGate" "held" "LProofGate$Credentials;" := Or.inl ff_Ga_18
theorem ff_Ga_25 : Cond.fieldLink "ProofGate" 25 "ProofGate" "draft" "LProofGate$Proof;" ∈ TB := tb1 203 rfl rfl
theorem fl_Ga_25 : gFl "ProofGate" 25 "ProofGate" "draft" "LProofGate$Proof;" := Or.inl ff_Ga_25
theorem ff_Ga_34 : Cond.fieldLink "ProofGate" 34 "ProofGate" "prover" "LProofGate$Prover;" ∈ TB := tb1 204 rfl rfl
theorem fl_Ga_34 : gFl "ProofGate" 34 "ProofGate" "prover" "LProofGate$Prover;" := Or.inl ff_Ga_34
theorem ff_Ga_41 : Cond.fieldLink "ProofGate" 41 "ProofGate" "checker" "LProofGate$Checker;" ∈ TB := tb1 205 rfl rfl
theorem fl_Ga_41 : gFl "ProofGate" 41 "ProofGate" "checker" "LProofGate$Checker;" := Or.inl ff_Ga_41
theorem ff_Ga_48 : Cond.fieldLink "ProofGate" 48 "ProofGate" "log" "LProofGate$AuditLog;" ∈ TB := tb1 206 rfl rfl
theorem fl_Ga_48 : gFl "ProofGate" 48 "ProofGate" "log" "LProofGate$AuditLog;" := Or.inl ff_Ga_48
theorem ff_Ga_55 : Cond.fieldLink "ProofGate" 55 "ProofGate" "wire" "LProofGate$Fuse;" ∈ TB := tb1 207 rfl rfl
theorem fl_Ga_55 : gFl "ProofGate" 55 "ProofGate" "wire" "LProofGate$Fuse;" := Or.inl ff_Ga_55
theorem ff_Ga_59 : Cond.fieldLink "ProofGate" 59 "ProofGate" "owners" "[I" ∈ TB := tb1 208 rfl rfl
theorem fl_Ga_59 : gFl "ProofGate" 59 "ProofGate" "owners" "[I" := Or.inl ff_Ga_59
theorem ff_Ga_62 : Cond.fieldLink "ProofGate" 62 "ProofGate" "values" "[I" ∈ TB := tb1 209 rfl rfl
theorem fl_Ga_62 : gFl "ProofGate" 62 "ProofGate" "values" "[I" := Or.inl ff_Ga_62
theorem ml_Lw_41 : gMl "ProofGateLaw" 41 y_Ga_seal := Or.inl (tb1 231 rfl rfl)
theorem cl_Ga_7 : Cond.classLink "ProofGate" 7 "ProofGate$Credential" ∈ TB := tb1 235 rfl rfl
theorem in_Cr : Cond.instantiable "ProofGate$Credential" 6 ∈ TB := tb1 236 rfl rfl
theorem ml_Ga_75 : gMl "ProofGate" 75 y_Cr_init := Or.inr ⟨"ProofGate", nb1 237 rfl rfl⟩
theorem ml_Cr_3 : gMl "ProofGate$Credential" 3 y_Jo_init := Or.inl (tb2 0 rfl rfl)
theorem mo_Cr_3 : Cond.methodLink "ProofGate$Credential" 3 Lib.objectInit ∈ TB := tb2 0 rfl rfl
theorem ml_Cr_28 : gMl "ProofGate$Credential" 28 y_Cr_isKind := Or.inl (tb2 1 rfl rfl)
theorem ml_Cr_32 : gMl "ProofGate$Credential" 32 y_Cr_limit := Or.inl (tb2 4 rfl rfl)
theorem ff_Cr_36 : Cond.fieldLink "ProofGate$Credential" 36 "ProofGate$Credential" "LIMITS" "[I" ∈ TB := tb2 7 rfl rfl
theorem fl_Cr_36 : gFl "ProofGate$Credential" 36 "ProofGate$Credential" "LIMITS" "[I" := Or.inl ff_Cr_36
theorem ff_Cr_15 : Cond.fieldLink "ProofGate$Credential" 15 "ProofGate$Credential" "issuer" "I" ∈ TB := tb2 9 rfl rfl
theorem fl_Cr_15 : gFl "ProofGate$Credential" 15 "ProofGate$Credential" "issuer" "I" := Or.inl ff_Cr_15
theorem fl_Fa_18 : gFl "ProofGate$Fact" 18 "ProofGate$Credential" "issuer" "I" := Or.inr ⟨"ProofGate", nb2 10 rfl rfl⟩
theorem fl_Ga_122 : gFl "ProofGate" 122 "ProofGate$Credential" "issuer" "I" := Or.inr ⟨"ProofGate", nb2 11 rfl rfl⟩
theorem fl_Ck_77 : gFl "ProofGate$Checker" 77 "ProofGate$Credential" "issuer" "I" := Or.inr ⟨"ProofGate", nb2 12 rfl rfl⟩
theorem fl_Pv_120 : gFl "ProofGate$Prover" 120 "ProofGate$Credential" "issuer" "I" := Or.inr ⟨"ProofGate", nb2 13 rfl rfl⟩
theorem ff_Cr_19 : Cond.fieldLink "ProofGate$Credential" 19 "ProofGate$Credential" "kind" "I" ∈ TB := tb2 14 rfl rfl
theorem fl_Cr_19 : gFl "ProofGate$Credential" 19 "ProofGate$Credential" "kind" "I" := Or.inl ff_Cr_19
theorem fl_Fa_9 : gFl "ProofGate$Fact" 9 "ProofGate$Credential" "kind" "I" := Or.inr ⟨"ProofGate", nb2 15 rfl rfl⟩
theorem fl_Ck_63 : gFl "ProofGate$Checker" 63 "ProofGate$Credential" "kind" "I" := Or.inr ⟨"ProofGate", nb2 16 rfl rfl⟩
theorem fl_Pv_117 : gFl "ProofGate$Prover" 117 "ProofGate$Credential" "kind" "I" := Or.inr ⟨"ProofGate", nb2 17 rfl rfl⟩
theorem ff_Cr_11 : Cond.fieldLink "ProofGate$Credential" 11 "ProofGate$Credential" "numbers" "[I" ∈ TB := tb2 18 rfl rfl
theorem fl_Cr_11 : gFl "ProofGate$Credential" 11 "ProofGate$Credential" "numbers" "[I" := Or.inl ff_Cr_11
theorem fl_Fa_24 : gFl "ProofGate$Fact" 24 "ProofGate$Credential" "numbers" "[I" := Or.inr ⟨"ProofGate", nb2 19 rfl rfl⟩
theorem fl_Ck_83 : gFl "ProofGate$Checker" 83 "ProofGate$Credential" "numbers" "[I" := Or.inr ⟨"ProofGate", nb2 20 rfl rfl⟩
theorem fl_Pv_112 : gFl "ProofGate$Prover" 112 "ProofGate$Credential" "numbers" "[I" := Or.inr ⟨"ProofGate", nb2 21 rfl rfl⟩
theorem ff_Cr_22 : Cond.fieldLink "ProofGate$Credential" 22 "ProofGate$Credential" "first" "I" ∈ TB := tb2 22 rfl rfl
theorem fl_Cr_22 : gFl "ProofGate$Credential" 22 "ProofGate$Credential" "first" "I" := Or.inl ff_Cr_22
theorem ff_Cr_25 : Cond.fieldLink "ProofGate$Credential" 25 "ProofGate$Credential" "last" "I" ∈ TB := tb2 23 rfl rfl
theorem fl_Cr_25 : gFl "ProofGate$Credential" 25 "ProofGate$Credential" "last" "I" := Or.inl ff_Cr_25
theorem ff_Cr_42 : Cond.fieldLink "ProofGate$Credential" 42 "ProofGate$Credential" "revoked" "Z" ∈ TB := tb2 24 rfl rfl
theorem fl_Cr_42 : gFl "ProofGate$Credential" 42 "ProofGate$Credential" "revoked" "Z" := Or.inl ff_Cr_42
theorem fl_Ga_127 : gFl "ProofGate" 127 "ProofGate$Credential" "revoked" "Z" := Or.inr ⟨"ProofGate", nb2 25 rfl rfl⟩
theorem ml_Ga_78 : gMl "ProofGate" 78 y_Ga_sealOf := Or.inl (tb2 39 rfl rfl)
theorem ml_Ga_216 : gMl "ProofGate" 216 y_Cr_mark := Or.inr ⟨"ProofGate", nb2 43 rfl rfl⟩
theorem ml_Cr_46 : gMl "ProofGate$Credential" 46 y_Cr_mix := Or.inl (tb2 47 rfl rfl)
theorem ct_Cr_49 : Cond.constant "ProofGate$Credential" 49 (1540483477) ∈ TB := tb2 50 rfl rfl
theorem ct_Ga_219 : Cond.constant "ProofGate" 219 (668265263) ∈ TB := tb2 51 rfl rfl
theorem ml_Lw_54 : gMl "ProofGateLaw" 54 y_Ga_set := Or.inl (tb2 52 rfl rfl)
theorem ml_Lw_63 : gMl "ProofGateLaw" 63 y_Ga_pass := Or.inl (tb2 56 rfl rfl)
theorem ml_Ga_131 : gMl "ProofGate" 131 y_Cs_letTimeGoOn := Or.inr ⟨"ProofGate", nb2 60 rfl rfl⟩
theorem ml_Lw_68 : gMl "ProofGateLaw" 68 y_Ga_step := Or.inl (tb2 64 rfl rfl)
theorem ml_Ga_135 : gMl "ProofGate" 135 y_Pf_append := Or.inr ⟨"ProofGate", nb2 68 rfl rfl⟩
theorem ml_Lw_73 : gMl "ProofGateLaw" 73 y_Ga_clear := Or.inl (tb2 72 rfl rfl)
theorem ml_Ga_139 : gMl "ProofGate" 139 y_Pf_makeEmpty := Or.inr ⟨"ProofGate", nb2 76 rfl rfl⟩
theorem ml_Lw_77 : gMl "ProofGateLaw" 77 y_Ga_steps := Or.inl (tb2 80 rfl rfl)
theorem ml_Ga_142 : gMl "ProofGate" 142 y_Pf_length := Or.inr ⟨"ProofGate", nb2 84 rfl rfl⟩
theorem ml_Lw_81 : gMl "ProofGateLaw" 81 y_Ga_stepAt := Or.inl (tb2 88 rfl rfl)
theorem ml_Ga_145 : gMl "ProofGate" 145 y_Pf_hasStep := Or.inr ⟨"ProofGate", nb2 92 rfl rfl⟩
theorem ml_Ga_149 : gMl "ProofGate" 149 y_Pf_ruleAt := Or.inr ⟨"ProofGate", nb2 96 rfl rfl⟩
theorem ml_Ga_152 : gMl "ProofGate" 152 y_Pf_xAt := Or.inr ⟨"ProofGate", nb2 100 rfl rfl⟩
theorem ml_Ga_155 : gMl "ProofGate" 155 y_Pf_yAt := Or.inr ⟨"ProofGate", nb2 104 rfl rfl⟩
theorem ml_Lw_86 : gMl "ProofGateLaw" 86 y_Ga_prove := Or.inl (tb2 108 rfl rfl)
theorem ml_Ga_158 : gMl "ProofGate" 158 y_Ga_isNamed := Or.inl (tb2 112 rfl rfl)
theorem ml_Ga_225 : gMl "ProofGate" 225 y_Ga_isPrincipal := Or.inl (tb2 115 rfl rfl)
theorem ml_Ga_206 : gMl "ProofGate" 206 y_Ga_isObject := Or.inl (tb2 118 rfl rfl)
theorem ml_Ga_162 : gMl "ProofGate" 162 y_Ga_isOpenTo := Or.inl (tb2 121 rfl rfl)
theorem ml_Ga_166 : gMl "ProofGate" 166 y_Ga_sayerOfGoal := Or.inl (tb2 125 rfl rfl)
theorem ml_Ga_170 : gMl "ProofGate" 170 y_Pv_writeProof := Or.inr ⟨"ProofGate", nb2 129 rfl rfl⟩
theorem ml_Pv_38 : gMl "ProofGate$Prover" 38 y_Pv_may := Or.inl (tb2 133 rfl rfl)
theorem ml_Pv_42 : gMl "ProofGate$Prover" 42 y_Pv_finds := Or.inl (tb2 136 rfl rfl)
theorem ml_Pv_50 : gMl "ProofGate$Prover" 50 y_Ar_fill := Or.inl (tb2 140 rfl rfl)
theorem ml_Pv_70 : gMl "ProofGate$Prover" 70 y_Pv_findWhatIsSaid := Or.inl (tb2 141 rfl rfl)
theorem ml_Pv_95 : gMl "ProofGate$Prover" 95 y_Cs_count := Or.inr ⟨"ProofGate", nb2 145 rfl rfl⟩
theorem ml_Cs_16 : gMl "ProofGate$Credentials" 16 y_AL_size := Or.inl (tb2 149 rfl rfl)
theorem ml_Pv_100 : gMl "ProofGate$Prover" 100 y_Cs_findValid := Or.inr ⟨"ProofGate", nb2 153 rfl rfl⟩
theorem ml_Cs_34 : gMl "ProofGate$Credentials" 34 y_Cs_find := Or.inl (tb2 157 rfl rfl)
theorem ml_Cs_28 : gMl "ProofGate$Credentials" 28 y_AL_get := Or.inl (tb2 161 rfl rfl)
theorem ml_AL_118 : gMl "java/util/ArrayList" 118 y_Ob_checkIndex := Or.inl (tb2 165 rfl rfl)
theorem ml_Ob_105 : gMl "java/util/Objects" 105 y_Pr_checkIndex := Or.inl (tb2 168 rfl rfl)
theorem ml_AL_123 : gMl "java/util/ArrayList" 123 y_AL_elementData := Or.inl (tb2 171 rfl rfl)
theorem cl_Cs_32 : Cond.classLink "ProofGate$Credentials" 32 "ProofGate$Credential" ∈ TB := tb2 175 rfl rfl
theorem ml_Cs_38 : gMl "ProofGate$Credentials" 38 y_Cr_isValidAt := Or.inr ⟨"ProofGate", nb2 176 rfl rfl⟩
theorem ml_Pv_104 : gMl "ProofGate$Prover" 104 y_Pv_factSaidBy := Or.inl (tb2 180 rfl rfl)
theorem ml_Pv_123 : gMl "ProofGate$Prover" 123 y_Pv_speaks := Or.inl (tb2 183 rfl rfl)
theorem ml_Pv_127 : gMl "ProofGate$Prover" 127 y_Pv_trusts := Or.inl (tb2 186 rfl rfl)
theorem ml_Pv_108 : gMl "ProofGate$Prover" 108 y_Pv_reach := Or.inl (tb2 189 rfl rfl)
theorem ml_Pv_74 : gMl "ProofGate$Prover" 74 y_Pv_findWhatFollows := Or.inl (tb2 193 rfl rfl)
theorem ml_Pv_77 : gMl "ProofGate$Prover" 77 y_Pv_findMayByVoice := Or.inl (tb2 197 rfl rfl)
theorem ml_Pv_131 : gMl "ProofGate$Prover" 131 y_Pv_isKnown := Or.inl (tb2 201 rfl rfl)
theorem ml_Pv_135 : gMl "ProofGate$Prover" 135 y_Pv_handOnMay := Or.inl (tb2 205 rfl rfl)
theorem ml_Pv_80 : gMl "ProofGate$Prover" 80 y_Pv_findMayByTrust := Or.inl (tb2 209 rfl rfl)
theorem ml_Pv_83 : gMl "ProofGate$Prover" 83 y_Pv_findTrustByTrust := Or.inl (tb2 213 rfl rfl)
theorem ml_Pv_139 : gMl "ProofGate$Prover" 139 y_Pv_handOnTrust := Or.inl (tb2 217 rfl rfl)
theorem ml_Pv_143 : gMl "ProofGate$Prover" 143 y_Ma_min := Or.inl (tb2 221 rfl rfl)
theorem ml_Pv_86 : gMl "ProofGate$Prover" 86 y_Pv_findTrustByVoice := Or.inl (tb2 224 rfl rfl)
theorem ml_Pv_89 : gMl "ProofGate$Prover" 89 y_Pv_findVoiceByVoice := Or.inl (tb2 228 rfl rfl)
theorem ml_Pv_148 : gMl "ProofGate$Prover" 148 y_Pv_handOnVoice := Or.inl (tb2 232 rfl rfl)
theorem ml_Pv_92 : gMl "ProofGate$Prover" 92 y_Pv_findImplied := Or.inl (tb2 236 rfl rfl)
theorem ml_Pv_152 : gMl "ProofGate$Prover" 152 y_Pv_applyImply := Or.inl (tb3 0 rfl rfl)
theorem ml_Pv_46 : gMl "ProofGate$Prover" 46 y_Pf_makeEmpty := Or.inr ⟨"ProofGate", nb3 4 rfl rfl⟩
theorem ml_Pv_56 : gMl "ProofGate$Prover" 56 y_Pv_writesStep := Or.inl (tb3 5 rfl rfl)
theorem ml_Pv_155 : gMl "ProofGate$Prover" 155 y_Pf_append := Or.inr ⟨"ProofGate", nb3 9 rfl rfl⟩
theorem ml_Pv_59 : gMl "ProofGate$Prover" 59 y_Pf_length := Or.inr ⟨"ProofGate", nb3 10 rfl rfl⟩
theorem ml_Ga_174 : gMl "ProofGate" 174 y_Pv_written := Or.inr ⟨"ProofGate", nb3 11 rfl rfl⟩
theorem ml_Ga_178 : gMl "ProofGate" 178 y_Pf_become := Or.inr ⟨"ProofGate", nb3 15 rfl rfl⟩
theorem ml_Pf_25 : gMl "ProofGate$Proof" 25 ⟨"java/lang/System", "arraycopy", "(Ljava/lang/Object;ILjava/lang/Object;II)V"⟩ := Or.inl (tb3 19 rfl rfl)
theorem ml_Lw_90 : gMl "ProofGateLaw" 90 y_Ga_check := Or.inl (tb3 22 rfl rfl)
theorem ml_Ga_182 : gMl "ProofGate" 182 y_Ck_accepts := Or.inr ⟨"ProofGate", nb3 26 rfl rfl⟩
theorem ml_Ck_22 : gMl "ProofGate$Checker" 22 y_Pf_length := Or.inr ⟨"ProofGate", nb3 30 rfl rfl⟩
theorem ml_Ck_28 : gMl "ProofGate$Checker" 28 y_Pf_ruleAt := Or.inr ⟨"ProofGate", nb3 31 rfl rfl⟩
theorem ml_Ck_32 : gMl "ProofGate$Checker" 32 y_Pf_xAt := Or.inr ⟨"ProofGate", nb3 32 rfl rfl⟩
theorem ml_Ck_35 : gMl "ProofGate$Checker" 35 y_Pf_yAt := Or.inr ⟨"ProofGate", nb3 33 rfl rfl⟩
theorem ml_Ck_38 : gMl "ProofGate$Checker" 38 y_Ck_follows := Or.inl (tb3 34 rfl rfl)
theorem ml_Ck_45 : gMl "ProofGate$Checker" 45 y_Cs_findValid := Or.inr ⟨"ProofGate", nb3 38 rfl rfl⟩
theorem ml_Ck_51 : gMl "ProofGate$Checker" 51 y_Ck_isSaid := Or.inl (tb3 39 rfl rfl)
theorem ml_Ck_69 : gMl "ProofGate$Checker" 69 y_Fa_becomeSaidBy := Or.inr ⟨"ProofGate", nb3 42 rfl rfl⟩
theorem ml_Ck_55 : gMl "ProofGate$Checker" 55 y_Ck_isImplied := Or.inl (tb3 46 rfl rfl)
theorem ml_Ck_87 : gMl "ProofGate$Checker" 87 y_Fa_become := Or.inr ⟨"ProofGate", nb3 49 rfl rfl⟩
theorem ml_Ck_59 : gMl "ProofGate$Checker" 59 y_Ck_isJoined := Or.inl (tb3 53 rfl rfl)
theorem ml_Ck_91 : gMl "ProofGate$Checker" 91 y_Ck_isHandedOn := Or.inl (tb3 56 rfl rfl)
theorem ml_Ck_95 : gMl "ProofGate$Checker" 95 y_Fa_isOfSameThing := Or.inr ⟨"ProofGate", nb3 59 rfl rfl⟩
theorem ml_Ck_99 : gMl "ProofGate$Checker" 99 y_Ck_isTrustedDeeper := Or.inl (tb3 63 rfl rfl)
theorem ml_Ck_105 : gMl "ProofGate$Checker" 105 y_Ma_min := Or.inl (tb3 66 rfl rfl)
theorem ml_Ck_42 : gMl "ProofGate$Checker" 42 y_Fa_isMay := Or.inr ⟨"ProofGate", nb3 67 rfl rfl⟩
theorem ml_Lw_99 : gMl "ProofGateLaw" 99 y_Ga_fuse := Or.inl (tb3 71 rfl rfl)
theorem ml_Ga_202 : gMl "ProofGate" 202 y_Fu_light := Or.inr ⟨"ProofGate", nb3 75 rfl rfl⟩
theorem ml_Lw_104 : gMl "ProofGateLaw" 104 y_Ga_owner := Or.inl (tb3 79 rfl rfl)
theorem ml_Lw_108 : gMl "ProofGateLaw" 108 y_Ga_credentials := Or.inl (tb3 83 rfl rfl)
theorem ml_Ga_98 : gMl "ProofGate" 98 y_Cs_count := Or.inr ⟨"ProofGate", nb3 87 rfl rfl⟩
theorem ml_Lw_112 : gMl "ProofGateLaw" 112 y_Ga_valid := Or.inl (tb3 88 rfl rfl)
theorem ml_Ga_209 : gMl "ProofGate" 209 y_Cs_findValid := Or.inr ⟨"ProofGate", nb3 92 rfl rfl⟩
theorem ml_Lw_116 : gMl "ProofGateLaw" 116 y_Ga_grants := Or.inl (tb3 93 rfl rfl)
theorem ml_Ga_212 : gMl "ProofGate" 212 y_Lg_count := Or.inr ⟨"ProofGate", nb3 97 rfl rfl⟩
theorem ml_Lw_120 : gMl "ProofGateLaw" 120 y_Ga_chain := Or.inl (tb3 101 rfl rfl)
theorem ml_Ga_213 : gMl "ProofGate" 213 y_Lg_link := Or.inr ⟨"ProofGate", nb3 105 rfl rfl⟩
theorem ml_Lw_29 : gMl "ProofGateLaw" 29 y_Lw_cell := Or.inl (tb3 109 rfl rfl)
theorem ml_Lw_46 : gMl "ProofGateLaw" 46 y_Lw_submit := Or.inl (tb3 112 rfl rfl)
theorem cl_Lw_13 : Cond.classLink "ProofGateLaw" 13 "java/lang/IllegalArgumentException" ∈ TB := tb3 115 rfl rfl
theorem cl_Lw_15 : Cond.classLink "ProofGateLaw" 15 "java/lang/UnsupportedOperationException" ∈ TB := tb3 116 rfl rfl
theorem cl_Lw_17 : Cond.classLink "ProofGateLaw" 17 "java/lang/IllegalStateException" ∈ TB := tb3 117 rfl rfl
theorem ml_Lw_7 : gMl "ProofGateLaw" 7 y_Ga_submit := Or.inl (tb3 118 rfl rfl)
theorem ml_Ga_82 : gMl "ProofGate" 82 y_Cr_isWellFormed := Or.inr ⟨"ProofGate", nb3 122 rfl rfl⟩
theorem ml_Cr_39 : gMl "ProofGate$Credential" 39 y_Ga_isPrincipal := Or.inr ⟨"ProofGate", nb3 126 rfl rfl⟩
theorem cl_Ga_86 : Cond.classLink "ProofGate" 86 "java/lang/IllegalArgumentException" ∈ TB := tb3 127 rfl rfl
theorem ml_Ga_90 : gMl "ProofGate" 90 ⟨"java/lang/IllegalArgumentException", "<init>", "(Ljava/lang/String;)V"⟩ := Or.inl (tb3 170 rfl rfl)
theorem ac_byte : Cond.arrayClass .byte ∈ TB := tb3 195 rfl rfl
theorem cl_Ga_93 : Cond.classLink "ProofGate" 93 "java/lang/UnsupportedOperationException" ∈ TB := tb3 196 rfl rfl
theorem ml_Ga_97 : gMl "ProofGate" 97 ⟨"java/lang/UnsupportedOperationException", "<init>", "(Ljava/lang/String;)V"⟩ := Or.inl (tb3 206 rfl rfl)
theorem cl_Ga_102 : Cond.classLink "ProofGate" 102 "java/lang/IllegalStateException" ∈ TB := tb3 212 rfl rfl
theorem ml_Ga_106 : gMl "ProofGate" 106 ⟨"java/lang/IllegalStateException", "<init>", "(Ljava/lang/String;)V"⟩ := Or.inl (tb3 222 rfl rfl)
theorem ml_Ga_107 : gMl "ProofGate" 107 y_Ga_writeRecord := Or.inl (tb3 228 rfl rfl)
theorem ml_Ga_220 : gMl "ProofGate" 220 y_Fu_burnsThrough := Or.inr ⟨"ProofGate", nb3 232 rfl rfl⟩
theorem ml_Ga_110 : gMl "ProofGate" 110 y_Cs_take := Or.inr ⟨"ProofGate", nb3 237 rfl rfl⟩
theorem ml_Cs_20 : gMl "ProofGate$Credentials" 20 y_AL_add := Or.inl (tb4 1 rfl rfl)
theorem ml_AL_131 : gMl "java/util/ArrayList" 131 y_AL_add2 := Or.inl (tb4 5 rfl rfl)
theorem ml_AL_129 : gMl "java/util/ArrayList" 129 y_AL_grow := Or.inl (tb4 9 rfl rfl)
theorem ml_AL_69 : gMl "java/util/ArrayList" 69 y_AL_grow2 := Or.inl (tb4 13 rfl rfl)
theorem ml_AL_73 : gMl "java/util/ArrayList" 73 y_As_newLength := Or.inl (tb4 17 rfl rfl)
theorem ml_As_194 : gMl "jdk/internal/util/ArraysSupport" 194 y_Ma_max := Or.inl (tb4 20 rfl rfl)
theorem ct_As_200 : Cond.constant "jdk/internal/util/ArraysSupport" 200 (2147483639) ∈ TB := tb4 23 rfl rfl
theorem ml_As_201 : gMl "jdk/internal/util/ArraysSupport" 201 y_As_hugeLength := Or.inl (tb4 24 rfl rfl)
theorem ml_AL_66 : gMl "java/util/ArrayList" 66 y_Ar_copyOf := Or.inl (tb4 27 rfl rfl)
theorem ml_Ar_86 : gMl "java/util/Arrays" 86 ⟨"java/lang/Object", "getClass", "()Ljava/lang/Class;"⟩ := Or.inl (tb4 30 rfl rfl)
theorem ml_Ar_300 : gMl "java/util/Arrays" 300 y_Ar_copyOf2 := Or.inl (tb4 49 rfl rfl)
theorem cl_Ar_110 : Cond.classLink "java/util/Arrays" 110 "[Ljava/lang/Object;" ∈ TB := tb4 52 rfl rfl
theorem cl_Ar_2 : Cond.classLink "java/util/Arrays" 2 "java/lang/Object" ∈ TB := tb4 54 rfl rfl
theorem ml_Ar_304 : gMl "java/util/Arrays" 304 y_Ma_min := Or.inl (tb4 55 rfl rfl)
theorem ml_Ar_150 : gMl "java/util/Arrays" 150 ⟨"java/lang/System", "arraycopy", "(Ljava/lang/Object;ILjava/lang/Object;II)V"⟩ := Or.inl (tb4 56 rfl rfl)
theorem ml_AL_79 : gMl "java/util/ArrayList" 79 y_Ma_max := Or.inl (tb4 57 rfl rfl)
theorem cl_AL_7 : Cond.classLink "java/util/ArrayList" 7 "java/lang/Object" ∈ TB := tb4 58 rfl rfl
theorem ml_Lw_59 : gMl "ProofGateLaw" 59 y_Lw_revoke := Or.inl (tb4 59 rfl rfl)
theorem cl_Lw_23 : Cond.classLink "ProofGateLaw" 23 "java/util/NoSuchElementException" ∈ TB := tb4 62 rfl rfl
theorem ml_Lw_19 : gMl "ProofGateLaw" 19 y_Ga_revoke := Or.inl (tb4 63 rfl rfl)
theorem ml_Ga_113 : gMl "ProofGate" 113 y_Cs_find := Or.inr ⟨"ProofGate", nb4 67 rfl rfl⟩
theorem cl_Ga_117 : Cond.classLink "ProofGate" 117 "java/util/NoSuchElementException" ∈ TB := tb4 68 rfl rfl
theorem ml_Ga_121 : gMl "ProofGate" 121 ⟨"java/util/NoSuchElementException", "<init>", "(Ljava/lang/String;)V"⟩ := Or.inl (tb4 78 rfl rfl)
theorem ml_Lw_95 : gMl "ProofGateLaw" 95 y_Lw_request := Or.inl (tb4 85 rfl rfl)
theorem ml_Lw_25 : gMl "ProofGateLaw" 25 y_Ga_request := Or.inl (tb4 88 rfl rfl)
theorem ml_Ga_190 : gMl "ProofGate" 190 y_Ga_useUpDraft := Or.inl (tb4 94 rfl rfl)
theorem ml_Ga_195 : gMl "ProofGate" 195 y_Lg_addGrant := Or.inr ⟨"ProofGate", nb4 99 rfl rfl⟩
theorem ml_Ga_199 : gMl "ProofGate" 199 y_Ga_carryOut := Or.inl (tb4 103 rfl rfl)
theorem cl_Lw_38 : Cond.classLink "ProofGateLaw" 38 "ProofGateModel" ∈ TB := tb4 107 rfl rfl
theorem in_Mo : Cond.instantiable "ProofGateModel" 38 ∈ TB := tb4 108 rfl rfl
theorem ml_Lw_40 : gMl "ProofGateLaw" 40 y_Mo_init := Or.inl (tb4 109 rfl rfl)
theorem ml_Mo_1 : gMl "ProofGateModel" 1 y_Jo_init := Or.inl (tb4 112 rfl rfl)
theorem mo_Mo_1 : Cond.methodLink "ProofGateModel" 1 Lib.objectInit ∈ TB := tb4 112 rfl rfl
theorem ff_Mo_89 : Cond.fieldLink "ProofGateModel" 89 "ProofGateModel" "secret" "I" ∈ TB := tb4 113 rfl rfl
theorem fl_Mo_89 : gFl "ProofGateModel" 89 "ProofGateModel" "secret" "I" := Or.inl ff_Mo_89
theorem ff_Mo_141 : Cond.fieldLink "ProofGateModel" 141 "ProofGateModel" "time" "I" ∈ TB := tb4 114 rfl rfl
theorem fl_Mo_141 : gFl "ProofGateModel" 141 "ProofGateModel" "time" "I" := Or.inl ff_Mo_141
theorem ff_Mo_93 : Cond.fieldLink "ProofGateModel" 93 "ProofGateModel" "fault" "I" ∈ TB := tb4 115 rfl rfl
theorem fl_Mo_93 : gFl "ProofGateModel" 93 "ProofGateModel" "fault" "I" := Or.inl ff_Mo_93
theorem ff_Mo_96 : Cond.fieldLink "ProofGateModel" 96 "ProofGateModel" "lit" "Z" ∈ TB := tb4 116 rfl rfl
theorem fl_Mo_96 : gFl "ProofGateModel" 96 "ProofGateModel" "lit" "Z" := Or.inl ff_Mo_96
theorem ff_Mo_100 : Cond.fieldLink "ProofGateModel" 100 "ProofGateModel" "left" "I" ∈ TB := tb4 117 rfl rfl
theorem fl_Mo_100 : gFl "ProofGateModel" 100 "ProofGateModel" "left" "I" := Or.inl ff_Mo_100
theorem ff_Mo_7 : Cond.fieldLink "ProofGateModel" 7 "ProofGateModel" "there" "[Z" ∈ TB := tb4 118 rfl rfl
theorem fl_Mo_7 : gFl "ProofGateModel" 7 "ProofGateModel" "there" "[Z" := Or.inl ff_Mo_7
theorem ff_Mo_13 : Cond.fieldLink "ProofGateModel" 13 "ProofGateModel" "owner" "[I" ∈ TB := tb4 119 rfl rfl
theorem fl_Mo_13 : gFl "ProofGateModel" 13 "ProofGateModel" "owner" "[I" := Or.inl ff_Mo_13
theorem ff_Mo_17 : Cond.fieldLink "ProofGateModel" 17 "ProofGateModel" "value" "[I" ∈ TB := tb4 120 rfl rfl
theorem fl_Mo_17 : gFl "ProofGateModel" 17 "ProofGateModel" "value" "[I" := Or.inl ff_Mo_17
theorem ff_Mo_228 : Cond.fieldLink "ProofGateModel" 228 "ProofGateModel" "grants" "I" ∈ TB := tb4 121 rfl rfl
theorem fl_Mo_228 : gFl "ProofGateModel" 228 "ProofGateModel" "grants" "I" := Or.inl ff_Mo_228
theorem ff_Mo_225 : Cond.fieldLink "ProofGateModel" 225 "ProofGateModel" "chain" "I" ∈ TB := tb4 122 rfl rfl
theorem fl_Mo_225 : gFl "ProofGateModel" 225 "ProofGateModel" "chain" "I" := Or.inl ff_Mo_225
theorem ff_Mo_134 : Cond.fieldLink "ProofGateModel" 134 "ProofGateModel" "credentials" "I" ∈ TB := tb4 123 rfl rfl
theorem fl_Mo_134 : gFl "ProofGateModel" 134 "ProofGateModel" "credentials" "I" := Or.inl ff_Mo_134
theorem ff_Mo_20 : Cond.fieldLink "ProofGateModel" 20 "ProofGateModel" "issuer" "[I" ∈ TB := tb4 124 rfl rfl
theorem fl_Mo_20 : gFl "ProofGateModel" 20 "ProofGateModel" "issuer" "[I" := Or.inl ff_Mo_20
theorem ff_Mo_23 : Cond.fieldLink "ProofGateModel" 23 "ProofGateModel" "kind" "[I" ∈ TB := tb4 125 rfl rfl
theorem fl_Mo_23 : gFl "ProofGateModel" 23 "ProofGateModel" "kind" "[I" := Or.inl ff_Mo_23
theorem ff_Mo_26 : Cond.fieldLink "ProofGateModel" 26 "ProofGateModel" "one" "[I" ∈ TB := tb4 126 rfl rfl
theorem fl_Mo_26 : gFl "ProofGateModel" 26 "ProofGateModel" "one" "[I" := Or.inl ff_Mo_26
theorem ff_Mo_29 : Cond.fieldLink "ProofGateModel" 29 "ProofGateModel" "two" "[I" ∈ TB := tb4 127 rfl rfl
theorem fl_Mo_29 : gFl "ProofGateModel" 29 "ProofGateModel" "two" "[I" := Or.inl ff_Mo_29
theorem ff_Mo_32 : Cond.fieldLink "ProofGateModel" 32 "ProofGateModel" "three" "[I" ∈ TB := tb4 128 rfl rfl
theorem fl_Mo_32 : gFl "ProofGateModel" 32 "ProofGateModel" "three" "[I" := Or.inl ff_Mo_32
theorem ff_Mo_35 : Cond.fieldLink "ProofGateModel" 35 "ProofGateModel" "four" "[I" ∈ TB := tb4 129 rfl rfl
theorem fl_Mo_35 : gFl "ProofGateModel" 35 "ProofGateModel" "four" "[I" := Or.inl ff_Mo_35
theorem ff_Mo_38 : Cond.fieldLink "ProofGateModel" 38 "ProofGateModel" "first" "[I" ∈ TB := tb4 130 rfl rfl
theorem fl_Mo_38 : gFl "ProofGateModel" 38 "ProofGateModel" "first" "[I" := Or.inl ff_Mo_38
theorem ff_Mo_41 : Cond.fieldLink "ProofGateModel" 41 "ProofGateModel" "last" "[I" ∈ TB := tb4 131 rfl rfl
theorem fl_Mo_41 : gFl "ProofGateModel" 41 "ProofGateModel" "last" "[I" := Or.inl ff_Mo_41
theorem ff_Mo_44 : Cond.fieldLink "ProofGateModel" 44 "ProofGateModel" "revoked" "[Z" ∈ TB := tb4 132 rfl rfl
theorem fl_Mo_44 : gFl "ProofGateModel" 44 "ProofGateModel" "revoked" "[Z" := Or.inl ff_Mo_44
theorem ff_Mo_47 : Cond.fieldLink "ProofGateModel" 47 "ProofGateModel" "given" "[I" ∈ TB := tb4 133 rfl rfl
theorem fl_Mo_47 : gFl "ProofGateModel" 47 "ProofGateModel" "given" "[I" := Or.inl ff_Mo_47
theorem ff_Mo_103 : Cond.fieldLink "ProofGateModel" 103 "ProofGateModel" "drafted" "I" ∈ TB := tb4 134 rfl rfl
theorem fl_Mo_103 : gFl "ProofGateModel" 103 "ProofGateModel" "drafted" "I" := Or.inl ff_Mo_103
theorem ff_Mo_187 : Cond.fieldLink "ProofGateModel" 187 "ProofGateModel" "made" "I" ∈ TB := tb4 135 rfl rfl
theorem fl_Mo_187 : gFl "ProofGateModel" 187 "ProofGateModel" "made" "I" := Or.inl ff_Mo_187
theorem ff_Mo_50 : Cond.fieldLink "ProofGateModel" 50 "ProofGateModel" "rule" "[I" ∈ TB := tb4 136 rfl rfl
theorem fl_Mo_50 : gFl "ProofGateModel" 50 "ProofGateModel" "rule" "[I" := Or.inl ff_Mo_50
theorem ff_Mo_53 : Cond.fieldLink "ProofGateModel" 53 "ProofGateModel" "left1" "[I" ∈ TB := tb4 137 rfl rfl
theorem fl_Mo_53 : gFl "ProofGateModel" 53 "ProofGateModel" "left1" "[I" := Or.inl ff_Mo_53
theorem ff_Mo_56 : Cond.fieldLink "ProofGateModel" 56 "ProofGateModel" "left2" "[I" ∈ TB := tb4 138 rfl rfl
theorem fl_Mo_56 : gFl "ProofGateModel" 56 "ProofGateModel" "left2" "[I" := Or.inl ff_Mo_56
theorem ff_Mo_59 : Cond.fieldLink "ProofGateModel" 59 "ProofGateModel" "facts" "[I" ∈ TB := tb4 139 rfl rfl
theorem fl_Mo_59 : gFl "ProofGateModel" 59 "ProofGateModel" "facts" "[I" := Or.inl ff_Mo_59
theorem ff_Mo_62 : Cond.fieldLink "ProofGateModel" 62 "ProofGateModel" "madeRule" "[I" ∈ TB := tb4 140 rfl rfl
theorem fl_Mo_62 : gFl "ProofGateModel" 62 "ProofGateModel" "madeRule" "[I" := Or.inl ff_Mo_62
theorem ff_Mo_65 : Cond.fieldLink "ProofGateModel" 65 "ProofGateModel" "madeX" "[I" ∈ TB := tb4 141 rfl rfl
theorem fl_Mo_65 : gFl "ProofGateModel" 65 "ProofGateModel" "madeX" "[I" := Or.inl ff_Mo_65
theorem ff_Mo_68 : Cond.fieldLink "ProofGateModel" 68 "ProofGateModel" "madeY" "[I" ∈ TB := tb4 142 rfl rfl
theorem fl_Mo_68 : gFl "ProofGateModel" 68 "ProofGateModel" "madeY" "[I" := Or.inl ff_Mo_68
theorem ff_Mo_71 : Cond.fieldLink "ProofGateModel" 71 "ProofGateModel" "round" "[I" ∈ TB := tb4 143 rfl rfl
theorem fl_Mo_71 : gFl "ProofGateModel" 71 "ProofGateModel" "round" "[I" := Or.inl ff_Mo_71
theorem ff_Mo_74 : Cond.fieldLink "ProofGateModel" 74 "ProofGateModel" "by" "[I" ∈ TB := tb4 144 rfl rfl
theorem fl_Mo_74 : gFl "ProofGateModel" 74 "ProofGateModel" "by" "[I" := Or.inl ff_Mo_74
theorem ff_Mo_77 : Cond.fieldLink "ProofGateModel" 77 "ProofGateModel" "from" "[I" ∈ TB := tb4 145 rfl rfl
theorem fl_Mo_77 : gFl "ProofGateModel" 77 "ProofGateModel" "from" "[I" := Or.inl ff_Mo_77
theorem ff_Mo_80 : Cond.fieldLink "ProofGateModel" 80 "ProofGateModel" "with" "[I" ∈ TB := tb4 146 rfl rfl
theorem fl_Mo_80 : gFl "ProofGateModel" 80 "ProofGateModel" "with" "[I" := Or.inl ff_Mo_80
theorem ff_Mo_83 : Cond.fieldLink "ProofGateModel" 83 "ProofGateModel" "place" "[I" ∈ TB := tb4 147 rfl rfl
theorem fl_Mo_83 : gFl "ProofGateModel" 83 "ProofGateModel" "place" "[I" := Or.inl ff_Mo_83
theorem ff_Mo_86 : Cond.fieldLink "ProofGateModel" 86 "ProofGateModel" "stack" "[I" ∈ TB := tb4 148 rfl rfl
theorem fl_Mo_86 : gFl "ProofGateModel" 86 "ProofGateModel" "stack" "[I" := Or.inl ff_Mo_86
theorem ff_Mo_144 : Cond.fieldLink "ProofGateModel" 144 "ProofGateModel" "now" "I" ∈ TB := tb4 149 rfl rfl
theorem fl_Mo_144 : gFl "ProofGateModel" 144 "ProofGateModel" "now" "I" := Or.inl ff_Mo_144
theorem ff_Mo_150 : Cond.fieldLink "ProofGateModel" 150 "ProofGateModel" "about" "I" ∈ TB := tb4 150 rfl rfl
theorem fl_Mo_150 : gFl "ProofGateModel" 150 "ProofGateModel" "about" "I" := Or.inl ff_Mo_150
theorem ac_boolean : Cond.arrayClass .boolean ∈ TB := tb4 228 rfl rfl
theorem ml_Lw_50 : gMl "ProofGateLaw" 50 y_Mo_thrown := Or.inl (tb4 229 rfl rfl)
theorem ml_Lw_103 : gMl "ProofGateLaw" 103 y_Mo_fuse := Or.inl (tb4 233 rfl rfl)
theorem ml_Mo_106 : gMl "ProofGateModel" 106 y_Mo_in := Or.inl (tb4 237 rfl rfl)
theorem ml_Lw_45 : gMl "ProofGateLaw" 45 y_Mo_seal := Or.inl (tb5 0 rfl rfl)
theorem ml_Mo_111 : gMl "ProofGateModel" 111 y_Mo_mix := Or.inl (tb5 4 rfl rfl)
theorem ct_Mo_110 : Cond.constant "ProofGateModel" 110 (1540483477) ∈ TB := tb5 7 rfl rfl
theorem ct_Mo_115 : Cond.constant "ProofGateModel" 115 (668265263) ∈ TB := tb5 8 rfl rfl
theorem ml_Lw_58 : gMl "ProofGateLaw" 58 y_Mo_set := Or.inl (tb5 9 rfl rfl)
theorem ml_Lw_49 : gMl "ProofGateLaw" 49 y_Mo_submit := Or.inl (tb5 13 rfl rfl)
theorem ml_Mo_116 : gMl "ProofGateModel" 116 y_Mo_isPerson := Or.inl (tb5 17 rfl rfl)
theorem ml_Mo_123 : gMl "ProofGateModel" 123 y_Mo_isFit := Or.inl (tb5 20 rfl rfl)
theorem ml_Mo_120 : gMl "ProofGateModel" 120 y_Mo_isRight := Or.inl (tb5 24 rfl rfl)
theorem ml_Mo_126 : gMl "ProofGateModel" 126 y_Mo_fails := Or.inl (tb5 27 rfl rfl)
theorem ml_Mo_130 : gMl "ProofGateModel" 130 y_Mo_seal := Or.inl (tb5 31 rfl rfl)
theorem ml_Mo_137 : gMl "ProofGateModel" 137 y_Mo_recorded := Or.inl (tb5 32 rfl rfl)
theorem ml_Lw_62 : gMl "ProofGateLaw" 62 y_Mo_revoke := Or.inl (tb5 36 rfl rfl)
theorem ml_Lw_72 : gMl "ProofGateLaw" 72 y_Mo_step := Or.inl (tb5 40 rfl rfl)
theorem ml_Lw_76 : gMl "ProofGateLaw" 76 y_Mo_clear := Or.inl (tb5 44 rfl rfl)
theorem ml_Lw_80 : gMl "ProofGateLaw" 80 y_Mo_steps := Or.inl (tb5 48 rfl rfl)
theorem ml_Lw_85 : gMl "ProofGateLaw" 85 y_Mo_stepAt := Or.inl (tb5 52 rfl rfl)
theorem ml_Lw_89 : gMl "ProofGateLaw" 89 y_Mo_prove := Or.inl (tb5 56 rfl rfl)
theorem ml_Mo_213 : gMl "ProofGateModel" 213 y_Mo_isGoal := Or.inl (tb5 60 rfl rfl)
theorem ml_Mo_216 : gMl "ProofGateModel" 216 y_Mo_sayer := Or.inl (tb5 64 rfl rfl)
theorem ml_Mo_153 : gMl "ProofGateModel" 153 y_Mo_may := Or.inl (tb5 68 rfl rfl)
theorem ml_Mo_219 : gMl "ProofGateModel" 219 y_Mo_proof := Or.inl (tb5 71 rfl rfl)
theorem ml_Mo_181 : gMl "ProofGateModel" 181 y_Mo_said := Or.inl (tb5 75 rfl rfl)
theorem ml_Mo_147 : gMl "ProofGateModel" 147 y_Mo_holds := Or.inl (tb5 79 rfl rfl)
theorem ml_Mo_157 : gMl "ProofGateModel" 157 y_Mo_speaks := Or.inl (tb5 83 rfl rfl)
theorem ml_Mo_160 : gMl "ProofGateModel" 160 y_Mo_trusts := Or.inl (tb5 86 rfl rfl)
theorem ml_Mo_164 : gMl "ProofGateModel" 164 y_Mo_finds := Or.inl (tb5 89 rfl rfl)
theorem ml_Mo_184 : gMl "ProofGateModel" 184 y_Mo_goesOn := Or.inl (tb5 93 rfl rfl)
theorem ml_Mo_171 : gMl "ProofGateModel" 171 y_Mo_newMay := Or.inl (tb5 97 rfl rfl)
theorem ml_Mo_168 : gMl "ProofGateModel" 168 y_Mo_had := Or.inl (tb5 101 rfl rfl)
theorem ml_Mo_174 : gMl "ProofGateModel" 174 y_Mo_newTrust := Or.inl (tb5 105 rfl rfl)
theorem ml_Mo_177 : gMl "ProofGateModel" 177 y_Mo_newVoice := Or.inl (tb5 109 rfl rfl)
theorem ml_Mo_190 : gMl "ProofGateModel" 190 y_Mo_needed := Or.inl (tb5 113 rfl rfl)
theorem ml_Mo_193 : gMl "ProofGateModel" 193 y_Mo_note := Or.inl (tb5 117 rfl rfl)
theorem ml_Lw_94 : gMl "ProofGateLaw" 94 y_Mo_check := Or.inl (tb5 121 rfl rfl)
theorem ml_Mo_222 : gMl "ProofGateModel" 222 y_Mo_proves := Or.inl (tb5 125 rfl rfl)
theorem ml_Mo_210 : gMl "ProofGateModel" 210 y_Mo_proved := Or.inl (tb5 129 rfl rfl)
theorem ml_Mo_197 : gMl "ProofGateModel" 197 y_Mo_spoken := Or.inl (tb5 133 rfl rfl)
theorem ml_Mo_206 : gMl "ProofGateModel" 206 y_Mo_fact := Or.inl (tb5 137 rfl rfl)
theorem ml_Mo_200 : gMl "ProofGateModel" 200 y_Mo_stepFact := Or.inl (tb5 140 rfl rfl)
theorem ml_Mo_203 : gMl "ProofGateModel" 203 y_Mo_item := Or.inl (tb5 144 rfl rfl)
theorem ml_Lw_98 : gMl "ProofGateLaw" 98 y_Mo_request := Or.inl (tb5 147 rfl rfl)
theorem ml_Mo_231 : gMl "ProofGateModel" 231 y_Mo_done := Or.inl (tb5 151 rfl rfl)
theorem ml_Lw_67 : gMl "ProofGateLaw" 67 y_Mo_pass := Or.inl (tb5 155 rfl rfl)
theorem ml_Lw_107 : gMl "ProofGateLaw" 107 y_Mo_owner := Or.inl (tb5 159 rfl rfl)
theorem ml_Lw_111 : gMl "ProofGateLaw" 111 y_Mo_credentials := Or.inl (tb5 163 rfl rfl)
theorem ml_Lw_115 : gMl "ProofGateLaw" 115 y_Mo_valid := Or.inl (tb5 167 rfl rfl)
theorem ml_Lw_119 : gMl "ProofGateLaw" 119 y_Mo_grants := Or.inl (tb5 171 rfl rfl)
theorem ml_Lw_123 : gMl "ProofGateLaw" 123 y_Mo_chain := Or.inl (tb5 175 rfl rfl)
theorem ac_long : Cond.arrayClass .long ∈ TB := tb5 179 rfl rfl
end

/** The sentences on the prover: what it finds, in which order, and how it writes it. */
public final class ProverTests extends Gates {
    private ProverTests() {
    }

    public static void main(String[] args) {
        Sentences.runAll(ProverTests.class);
    }

    /** Lets 5 CREATE object 0 by a word of principal a that is found in round 2, behind links of round 2. */
    private static void giveLate(ProofGate gate, int a) {
        give(gate, a, IMPLY, WRITE, CREATE);
        give(gate, a, GRANT, 5, WRITE, 0);
    }

    @Sentence(of = "The prover", words = "for facts of one object (and SPEAKS) at a time")
    static void oneObjectAtATime() {
        ProofGate gate = new ProofGate(5);
        give(gate, ROOT, TRUST, 1, CREATE, 1, 0);
        give(gate, 1, GRANT, 5, CREATE, 0);
        give(gate, ROOT, GRANT, 4, CREATE, 1);
        Due.is("a GRANT of another object", gate.prove(4, CREATE, 0), -2);
        Due.is("a TRUST of another object", gate.prove(5, CREATE, 0), -2);
        Due.is("a GRANT by one who is trusted with another", gate.prove(5, CREATE, 1), -2);
        give(gate, ROOT, VOICE, 2);
        for (int o = 0; o <= 5; o++) {
            give(gate, 2, GRANT, 3, CREATE, o);
            Due.is("SPEAKS is for all objects", gate.prove(3, CREATE, o), 3);
        }
    }

    @Sentence(of = "The prover", words = "facts are found in ROUNDS")
    static void earlierRoundFirst() {
        ProofGate gate = new ProofGate(5);
        give(gate, 0, VOICE, 1);
        give(gate, 1, VOICE, 2);
        give(gate, 2, GRANT, 5, CREATE, 0);
        give(gate, 0, IMPLY, READ, CREATE);
        give(gate, 0, GRANT, 5, READ, 0);
        Due.is("rule 7 in round 2, rule 2 in round 3", proofFor(gate, 5), "1:5,0 7:4,0");
        give(gate, 0, GRANT, 5, CREATE, 0);
        Due.is("rule 1 in round 1", proofFor(gate, 5), "1:6,0");
        gate.revoke(0, 6);
        gate.revoke(0, 4);
        Due.is("rule 2, in round 3", proofFor(gate, 5), "1:1,0 1:2,0 1:3,0 2:1,2 2:0,3");
    }

    @Sentence(of = "The prover", words = "in each all those are found that were not yet, and that a rule gives from "
            + "facts of earlier rounds.")
    static void factsOfEarlierRounds() {
        ProofGate gate = new ProofGate(5);
        give(gate, 0, VOICE, 3);
        give(gate, 3, VOICE, 2);
        give(gate, 2, GRANT, 5, CREATE, 0);
        give(gate, 0, IMPLY, READ, CREATE);
        give(gate, 0, GRANT, 5, READ, 0);
        Due.is("what 3 says is found in the same round", proofFor(gate, 5), "1:5,0 7:4,0");
        ProofGate second = new ProofGate(5);
        give(second, 0, VOICE, 4);
        give(second, 4, VOICE, 3);
        give(second, 3, VOICE, 2);
        give(second, 2, GRANT, 5, CREATE, 0);
        Due.is("all that round 2 gives is there for round 3", proofFor(second, 5),
                "1:2,0 1:1,0 6:0,1 1:3,0 1:4,0 2:3,4 2:2,5");
    }

    @Sentence(of = "The prover", words = "in each all those are found that were not yet")
    static void foundOnce() {
        ProofGate gate = new ProofGate(5);
        give(gate, 0, TRUST, 1, CREATE, 0, 0);
        give(gate, 1, TRUST, 3, CREATE, 0, 0);
        giveLate(gate, 3);
        give(gate, 3, VOICE, 4);
        give(gate, 4, VOICE, 2);
        give(gate, 2, GRANT, 5, CREATE, 0);
        Due.is("what 3 says keeps its reason of round 2, though round 3 has one of a lesser rule",
                proofFor(gate, 5), "1:1,0 1:2,0 1:4,0 7:3,2 3:1,3 3:0,4");
    }

    @Sentence(of = "The prover", words = "The REASON of a fact is the rule of the least number that gives it so in "
            + "that round")
    static void leastRule() {
        ProofGate gate = new ProofGate(5);
        giveLate(gate, 0);
        Due.is("rule 7 alone", proofFor(gate, 5), "1:2,0 7:1,0");
        give(gate, 0, TRUST, 1, CREATE, 0, 0);
        give(gate, 1, GRANT, 5, CREATE, 0);
        Due.is("rule 3 before 7", proofFor(gate, 5), "1:3,0 1:4,0 3:0,1");
        give(gate, 0, VOICE, 2);
        give(gate, 2, GRANT, 5, CREATE, 0);
        Due.is("rule 2 before 3, though its b is more", proofFor(gate, 5), "1:5,0 1:6,0 2:0,1");
        gate.revoke(0, 3);
        Due.is("rule 2 before 7", proofFor(gate, 5), "1:5,0 1:6,0 2:0,1");
        gate.revoke(0, 5);
        Due.is("rule 7 again", proofFor(gate, 5), "1:2,0 7:1,0");
    }

    @Sentence(of = "The prover", words = "the rule of the least number that gives it so")
    static void leastRuleOfTrust() {
        ProofGate gate = new ProofGate(5);
        give(gate, 0, VOICE, 1);
        give(gate, 1, TRUST, 2, CREATE, 0, 0);
        giveLate(gate, 2);
        Due.is("rule 5 alone", proofFor(gate, 5), "1:1,0 1:2,0 5:0,1 1:4,0 7:3,3 3:2,4");
        give(gate, 0, TRUST, 3, CREATE, 0, 1);
        give(gate, 3, TRUST, 2, CREATE, 0, 0);
        Due.is("rule 4 before 5, though its b is more", proofFor(gate, 5), "1:5,0 1:6,0 4:0,1 1:4,0 7:3,3 3:2,4");
    }

    @Sentence(of = "The prover", words = "of several ways with that rule the one with the least credential (1, 7)")
    static void leastCredential() {
        ProofGate gate = new ProofGate(5);
        for (int i = 1; i <= 3; i++) {
            give(gate, ROOT, GRANT, 5, CREATE, 0);
        }
        for (int i = 1; i <= 3; i++) {
            Due.is("rule 1", proofFor(gate, 5), "1:" + i + ",0");
            gate.revoke(ROOT, i);
        }
        ProofGate second = new ProofGate(5);
        give(second, ROOT, IMPLY, OWN, CREATE);
        give(second, ROOT, IMPLY, READ, CREATE);
        give(second, ROOT, IMPLY, READ, CREATE);
        give(second, ROOT, GRANT, 5, READ, 0);
        give(second, ROOT, GRANT, 5, OWN, 0);
        String[] proofs = {"1:5,0 7:1,0", "1:4,0 7:2,0", "1:4,0 7:3,0", "-2"};
        for (int i = 0; i < proofs.length; i++) {
            Due.is("rule 7", proofFor(second, 5), proofs[i]);
            second.revoke(ROOT, i + 1);
        }
    }

    @Sentence(of = "The prover", words = "the least b (2 to 6")
    static void leastBOfMay() {
        ProofGate gate = new ProofGate(5);
        for (int b = 5; b >= 1; b--) {
            give(gate, ROOT, VOICE, b);
            give(gate, b, GRANT, 5, CREATE, 0);
        }
        for (int b = 1; b <= 5; b++) {
            int voice = 11 - 2 * b;
            Due.is("rule 2, b " + b, proofFor(gate, 5), "1:" + voice + ",0 1:" + (voice + 1) + ",0 2:0,1");
            gate.revoke(ROOT, voice);
        }
        ProofGate second = new ProofGate(5);
        for (int b = 5; b >= 1; b--) {
            give(second, ROOT, TRUST, b, CREATE, 0, 0);
            give(second, b, GRANT, 5, CREATE, 0);
        }
        for (int b = 1; b <= 5; b++) {
            int trust = 11 - 2 * b;
            Due.is("rule 3, b " + b, proofFor(second, 5), "1:" + trust + ",0 1:" + (trust + 1) + ",0 3:0,1");
            second.revoke(ROOT, trust);
        }
    }

    @Sentence(of = "The prover", words = "the least b (2 to 6; then, with 3 and 4")
    static void leastBOfLinks() {
        int[] kinds = {TRUST, VOICE, VOICE};
        for (int rule = 4; rule <= 6; rule++) {
            ProofGate gate = new ProofGate(5);
            giveLate(gate, 2);
            for (int b = 5; b >= 3; b--) {
                giveLink(gate, ROOT, kinds[rule - 4], b, 1);
                giveLink(gate, b, rule == 6 ? VOICE : TRUST, 2, 0);
            }
            giveLink(gate, ROOT, kinds[rule - 4], 1, 3);
            giveLink(gate, 1, rule == 6 ? VOICE : TRUST, 2, 0);
            int[] uppers = {9, 7, 5, 3};
            for (int upper : uppers) {
                int first = rule == 6 ? upper + 1 : upper;
                int second = rule == 6 ? upper : upper + 1;
                Due.is("rule " + rule, proofFor(gate, 5), "1:" + first + ",0 1:" + second + ",0 " + rule
                        + ":0,1 1:2,0 7:1,3 " + (rule == 6 ? 2 : 3) + ":2,4");
                gate.revoke(ROOT, upper);
            }
        }
    }

    private static void giveLink(ProofGate gate, int issuer, int kind, int b, int d) {
        if (kind == VOICE) {
            give(gate, issuer, VOICE, b);
        } else {
            give(gate, issuer, TRUST, b, CREATE, 0, d);
        }
    }

    @Sentence(of = "The prover", words = "then, with 3 and 4, the least d")
    static void leastDOfRule3() {
        ProofGate gate = new ProofGate(5);
        give(gate, 1, GRANT, 5, CREATE, 0);
        give(gate, 2, GRANT, 5, CREATE, 0);
        give(gate, ROOT, TRUST, 2, CREATE, 0, 0);
        for (int d = 3; d >= 0; d--) {
            give(gate, ROOT, TRUST, 1, CREATE, 0, d);
        }
        for (int number = 7; number >= 4; number--) {
            Due.is("d " + (7 - number), proofFor(gate, 5), "1:" + number + ",0 1:1,0 3:0,1");
            gate.revoke(ROOT, number);
        }
        Due.is("a greater b comes last, whatever its d", proofFor(gate, 5), "1:3,0 1:2,0 3:0,1");
    }

    @Sentence(of = "The prover", words = "with 3 and 4, the least d")
    static void leastDOfRule4() {
        ProofGate gate = new ProofGate(5);
        giveLate(gate, 2);
        give(gate, 1, TRUST, 2, CREATE, 0, 0);
        for (int d = 3; d >= 1; d--) {
            give(gate, ROOT, TRUST, 1, CREATE, 0, d);
        }
        for (int number = 6; number >= 4; number--) {
            Due.is("d " + (7 - number), proofFor(gate, 5), "1:" + number + ",0 1:3,0 4:0,1 1:2,0 7:1,3 3:2,4");
            gate.revoke(ROOT, number);
        }
    }

    @Sentence(of = "The prover", words = "then, with 4, the least e)")
    static void leastEOfRule4() {
        ProofGate gate = new ProofGate(5);
        giveLate(gate, 2);
        give(gate, ROOT, TRUST, 1, CREATE, 0, 1);
        for (int e = 3; e >= 0; e--) {
            give(gate, 1, TRUST, 2, CREATE, 0, e);
        }
        for (int number = 7; number >= 4; number--) {
            Due.is("e " + (7 - number), proofFor(gate, 5), "1:3,0 1:" + number + ",0 4:0,1 1:2,0 7:1,3 3:2,4");
            gate.revoke(1, number);
        }
    }

    @Sentence(of = "The prover", words = "THE PROOF OF A FACT that is found: the proof of the first fact in its reason")
    static void firstFactFirst() {
        ProofGate gate = new ProofGate(5);
        give(gate, 2, GRANT, 5, READ, 0);
        give(gate, 2, IMPLY, READ, WRITE);
        give(gate, 2, IMPLY, WRITE, CREATE);
        give(gate, 1, TRUST, 2, CREATE, 0, 2);
        give(gate, 3, VOICE, 1);
        give(gate, 0, TRUST, 3, CREATE, 0, 3);
        Due.is("the link's proof, then the word's", proofFor(gate, 5),
                "1:6,0 1:5,0 1:4,0 5:1,2 4:0,3 1:1,0 7:2,5 7:3,6 3:4,7");
    }

    @Sentence(of = "The prover", words = "but for steps that are there, then that of the second one, likewise, then "
            + "the step with its reason.")
    static void stepsThatAreThere() {
        ProofGate gate = new ProofGate(5);
        give(gate, 0, VOICE, 1);
        give(gate, 1, VOICE, 0);
        give(gate, 1, GRANT, 5, READ, 0);
        give(gate, 0, IMPLY, READ, WRITE);
        give(gate, 1, IMPLY, WRITE, CREATE);
        Due.is("SPEAKS(1, 0) is needed twice", proofFor(gate, 5), "1:1,0 1:2,0 1:3,0 2:0,2 7:4,3 2:1,4 7:5,5 2:0,6");
    }
}

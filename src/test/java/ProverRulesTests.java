/** The rules as the prover uses them, for every choice of principals: what follows, and nothing else. */
public final class ProverRulesTests extends Gates {
    /** The object that the goals are about. */
    private static final int O = 1;

    private ProverRulesTests() {
    }

    public static void main(String[] args) {
        Sentences.runAll(ProverRulesTests.class);
    }

    private interface Threes {
        void of(int a, int b, int c);
    }

    /** Each choice of three principals that are not the same. */
    private static void forThree(Threes test) {
        for (int a = 0; a <= 5; a++) {
            for (int b = 0; b <= 5; b++) {
                for (int c = 0; c <= 5; c++) {
                    if (a != b && b != c && a != c) {
                        test.of(a, b, c);
                    }
                }
            }
        }
    }

    /** The greatest right that a goal of principal a can be about: the root's alone are about CREATE. */
    private static int lastRight(int a) {
        return a == ROOT ? CREATE : OWN;
    }

    /** A gate on which goals for right r with O are MAY(a, ..), and no credential but a revoked one. */
    private static ProofGate withGoalOf(int a, int r) {
        ProofGate gate = new ProofGate(5);
        give(gate, ROOT, GRANT, a, CREATE, O);
        if (r != CREATE) {
            gate.request(a, CREATE, O, 77, false);
        }
        gate.revoke(ROOT, 1);
        return gate;
    }

    /** By two more credentials c says only in round 2 that x may do r. */
    private static void giveLate(ProofGate gate, int c, int x, int r) {
        give(gate, c, IMPLY, (r + 1) % 4, r);
        give(gate, c, GRANT, x, (r + 1) % 4, O);
    }

    private static void foundBy(String proof, ProofGate gate, int x, int r) {
        gate.clear();
        int answer = gate.prove(x, r, O);
        Due.is("what is found", answer < 0 ? Integer.toString(answer) : draft(gate), proof);
    }

    @Sentence(of = "Rules", words = "2: SPEAKS(b, a) and MAY(b, x, r, o) give MAY(a, x, r, o).")
    static void rule2() {
        forThree((a, b, c) -> {
            for (int r = READ; r <= lastRight(a); r++) {
                for (int x = 0; x <= 5; x++) {
                    ProofGate gate = withGoalOf(a, r);
                    give(gate, a, VOICE, b);
                    give(gate, b, GRANT, x, r, O);
                    foundBy("1:2,0 1:3,0 2:0,1", gate, x, r);
                }
            }
        });
    }

    @Sentence(of = "Rules", words = "SPEAKS(b, a) and MAY(b, x, r, o)")
    static void rule2TakesNoOther() {
        forThree((a, b, p) -> {
            for (int q = 0; q <= 5; q++) {
                for (int r = READ; r <= lastRight(a); r++) {
                    int x = r == CREATE ? 5 : 0;
                    ProofGate gate = withGoalOf(a, r);
                    give(gate, b, GRANT, x, r, O);
                    give(gate, p, VOICE, q);
                    foundBy("-2", gate, x, r);
                    give(gate, a, VOICE, p);
                    Due.is("by one who speaks for one who speaks", gate.prove(x, r, O) > 0, q == b);
                }
            }
        });
    }

    @Sentence(of = "Rules", words = "3: TRUSTS(a, b, r, o, d) and MAY(b, x, r, o) give MAY(a, x, r, o).")
    static void rule3() {
        forThree((a, b, c) -> {
            for (int r = READ; r <= lastRight(a); r++) {
                for (int d = 0; d <= 3; d++) {
                    ProofGate gate = withGoalOf(a, r);
                    give(gate, a, TRUST, b, r, O, d);
                    give(gate, b, GRANT, c, r, O);
                    foundBy("1:2,0 1:3,0 3:0,1", gate, c, r);
                }
            }
        });
    }

    @Sentence(of = "Rules", words = "TRUSTS(a, b, r, o, d) and MAY(b, x, r, o)")
    static void rule3TakesNoOther() {
        forThree((a, b, p) -> {
            for (int r = READ; r <= lastRight(a); r++) {
                for (int d = 0; d <= 3; d++) {
                    ProofGate gate = withGoalOf(a, r);
                    give(gate, b, GRANT, 0, r, O);
                    give(gate, a, TRUST, b, (r + 1) % 4, O, d);
                    give(gate, a, TRUST, b, (r + 2) % 4, O, d);
                    give(gate, a, TRUST, b, (r + 3) % 4, O, d);
                    give(gate, a, TRUST, b, r, O - 1, d);
                    give(gate, a, TRUST, b, r, O + 1, d);
                    give(gate, b, TRUST, a, r, O, d);
                    give(gate, p, TRUST, b, r, O, d);
                    give(gate, b, TRUST, p, r, O, d);
                    foundBy("-2", gate, 0, r);
                }
            }
        });
    }

    @Sentence(of = "Rules", words = "4: TRUSTS(a, b, r, o, d), d above 0, and TRUSTS(b, c, r, o, e) give "
            + "TRUSTS(a, c, r, o, m), m the less of d - 1 and e.")
    static void rule4() {
        forThree((a, b, c) -> {
            for (int r = READ; r <= lastRight(a); r++) {
                ProofGate gate = withGoalOf(a, r);
                give(gate, a, TRUST, b, r, O, 1);
                give(gate, b, TRUST, c, r, O, 0);
                giveLate(gate, c, b, r);
                foundBy("1:2,0 1:3,0 4:0,1 1:5,0 7:4,3 3:2,4", gate, b, r);
            }
        });
    }

    @Sentence(of = "Rules", words = "m the less of d - 1 and e")
    static void depthByRule4() {
        for (int d = 0; d <= 3; d++) {
            for (int e = 0; e <= 3; e++) {
                for (int said = 0; said <= 3; said++) {
                    ProofGate gate = withGoalOf(ROOT, CREATE);
                    give(gate, ROOT, TRUST, 1, CREATE, O, d);
                    give(gate, 1, TRUST, 2, CREATE, O, e);
                    giveLate(gate, 2, 5, CREATE);
                    give(gate, ROOT, TRUST, 2, CREATE, O, said);
                    // Rule 3 takes the lesser depth of the two that trust in 2 has.
                    boolean less = d > 0 && Math.min(d - 1, e) < said;
                    foundBy(less ? "1:2,0 1:3,0 4:0,1 1:5,0 7:4,3 3:2,4" : "1:6,0 1:5,0 7:4,1 3:0,2", gate, 5, CREATE);
                }
            }
        }
    }

    /** By two links, f to b and p to q, what c says comes to a when they lead from a to c, and not else. */
    private static void takesNoOther(int rule, int a, int b, int c) {
        for (int f = 0; f <= 5; f++) {
            for (int p = 0; p <= 5; p++) {
                for (int q = 0; q <= 5; q++) {
                    boolean leads = p == a && q == c || f == a && p == b && q == c || p == a && q == f && b == c
                            || f == a && b == c;
                    int r = lastRight(a);
                    int x = (f + p + q) % 2 * 5;
                    ProofGate gate = withGoalOf(a, r);
                    giveLink(gate, rule == 4 ? TRUST : VOICE, f, b, r);
                    giveLink(gate, rule == 6 ? VOICE : TRUST, p, q, r);
                    giveLate(gate, c, x, r);
                    Due.is("rule " + rule + " from " + a + " to " + c + " by " + f + " to " + b + ", " + p + " to " + q,
                            gate.prove(x, r, O) > 0, leads);
                }
            }
        }
    }

    /** The same for each choice of principals, b between a and c or not. */
    private static void takesNoOther(int rule) {
        for (int a = 0; a <= 5; a++) {
            for (int b = 0; b <= 5; b++) {
                for (int c = 0; c <= 5; c++) {
                    if (a != c) {
                        takesNoOther(rule, a, b, c);
                    }
                }
            }
        }
    }

    private static void giveLink(ProofGate gate, int kind, int from, int to, int r) {
        if (kind == VOICE) {
            give(gate, from, VOICE, to);
        } else {
            give(gate, from, TRUST, to, r, O, 3);
        }
    }

    @Sentence(of = "Rules", words = "TRUSTS(a, b, r, o, d), d above 0, and TRUSTS(b, c, r, o, e)")
    static void rule4TakesNoOther() {
        takesNoOther(4);
        forThree((a, b, c) -> {
            for (int r = READ; r <= lastRight(a); r++) {
                for (int other = 1; other <= 3; other++) {
                    ProofGate gate = withGoalOf(a, r);
                    give(gate, a, TRUST, b, (r + other) % 4, O, 3);
                    give(gate, b, TRUST, c, r, O, 3);
                    give(gate, b, TRUST, c, (r + other) % 4, O - 1, 3);
                    give(gate, c, GRANT, 0, r, O);
                    give(gate, c, GRANT, 0, (r + other) % 4, O);
                    foundBy("-2", gate, 0, r);
                }
            }
        });
    }

    @Sentence(of = "Rules", words = "5: SPEAKS(b, a) and TRUSTS(b, c, r, o, d) give TRUSTS(a, c, r, o, d).")
    static void rule5() {
        forThree((a, b, c) -> {
            for (int r = READ; r <= lastRight(a); r++) {
                ProofGate gate = withGoalOf(a, r);
                give(gate, a, VOICE, b);
                give(gate, b, TRUST, c, r, O, 0);
                giveLate(gate, c, b, r);
                foundBy("1:2,0 1:3,0 5:0,1 1:5,0 7:4,3 3:2,4", gate, b, r);
            }
        });
    }

    @Sentence(of = "Rules", words = "TRUSTS(b, c, r, o, d) give TRUSTS(a, c, r, o, d)")
    static void depthByRule5() {
        for (int d = 0; d <= 3; d++) {
            for (int said = 0; said <= 3; said++) {
                ProofGate gate = withGoalOf(ROOT, CREATE);
                give(gate, ROOT, VOICE, 1);
                give(gate, 1, TRUST, 2, CREATE, O, d);
                giveLate(gate, 2, 5, CREATE);
                give(gate, ROOT, TRUST, 2, CREATE, O, said);
                foundBy(d < said ? "1:2,0 1:3,0 5:0,1 1:5,0 7:4,3 3:2,4" : "1:6,0 1:5,0 7:4,1 3:0,2", gate, 5, CREATE);
            }
        }
    }

    @Sentence(of = "Rules", words = "SPEAKS(b, a) and TRUSTS(b, c, r, o, d)")
    static void rule5TakesNoOther() {
        takesNoOther(5);
    }

    @Sentence(of = "Rules", words = "6: SPEAKS(c, b) and SPEAKS(b, a) give SPEAKS(c, a).")
    static void rule6() {
        forThree((a, b, c) -> {
            for (int r = READ; r <= lastRight(a); r++) {
                ProofGate gate = withGoalOf(a, r);
                give(gate, a, VOICE, b);
                give(gate, b, VOICE, c);
                giveLate(gate, c, b, r);
                foundBy("1:3,0 1:2,0 6:0,1 1:5,0 7:4,3 2:2,4", gate, b, r);
            }
        });
    }

    @Sentence(of = "Rules", words = "SPEAKS(c, b) and SPEAKS(b, a)")
    static void rule6TakesNoOther() {
        takesNoOther(6);
    }

    @Sentence(of = "Rules", words = "7: a valid credential IMPLY (r, s) of a and MAY(a, x, r, o) give MAY(a, x, s, o).")
    static void rule7() {
        for (int a = 0; a <= 5; a++) {
            for (int issuer = 0; issuer <= 5; issuer++) {
                for (int x = 0; x <= 5; x++) {
                    for (int r = READ; r <= CREATE; r++) {
                        int s = (r + 1 + x % 3) % (lastRight(a) + 1);
                        ProofGate gate = withGoalOf(a, s);
                        give(gate, issuer, IMPLY, r, s);
                        give(gate, a, GRANT, x, r, O);
                        String proof = r == s ? "1:3,0" : issuer == a ? "1:3,0 7:2,0" : "-2";
                        foundBy(proof, gate, x, s);
                    }
                }
            }
        }
    }

    @Sentence(of = "Rules", words = "IMPLY (r, s) of a and MAY(a, x, r, o)")
    static void rule7TakesNoOther() {
        for (int r = READ; r <= CREATE; r++) {
            for (int s = READ; s <= CREATE; s++) {
                for (int said = READ; said <= CREATE; said++) {
                    ProofGate gate = withGoalOf(ROOT, CREATE);
                    give(gate, ROOT, IMPLY, r, s);
                    give(gate, ROOT, GRANT, 4, said, O);
                    String proof = said == CREATE ? "1:3,0" : said == r && s == CREATE ? "1:3,0 7:2,0" : "-2";
                    foundBy(proof, gate, 4, CREATE);
                    foundBy("-2", gate, 3, CREATE);
                    foundBy("-2", gate, 5, CREATE);
                }
            }
        }
    }
}

import java.util.Arrays;

/** The sentences of the document before its promises, but for the prover's; each with a test of its own. */
public final class TermsTests extends Gates {
    private TermsTests() {
    }

    public static void main(String[] args) {
        Sentences.runAll(TermsTests.class);
    }

    @Sentence(of = "What it is", words = "An object is used for at most 512 calls after it has been made")
    static void callsTo512() {
        ProofGate gate = withReadable();
        int chain = gate.chain();
        for (int call = 9; call <= 510; call++) {
            Due.is("call " + call, gate.request(2, READ, 1, 0, false), 77);
            chain = link(chain, 2, READ, 1, 1);
        }
        Due.is("call 511", gate.grants(), 503);
        Due.is("call 512", gate.chain(), chain);
    }

    @Sentence(of = "Terms", words = "PRINCIPALS are 0 .. 5 (0 is the ROOT)")
    static void principals() {
        for (int p = 0; p <= 5; p++) {
            ProofGate gate = new ProofGate(5);
            Due.is("issuer " + p, give(gate, p, VOICE, p), 1);
            Due.is("GRANT to " + p, give(gate, ROOT, GRANT, p, CREATE, 0), 2);
            Due.is("goal of " + p, gate.prove(p, CREATE, 0), 1);
            Due.is("request of " + p, gate.request(p, CREATE, 0, 1, false), 0);
            Due.is("owner", gate.owner(0), p);
        }
        for (int p : NOT_0_TO_5) {
            ProofGate gate = new ProofGate(5);
            Due.throwing("issuer " + p, IAE, () -> give(gate, p, VOICE, 0));
            Due.throwing("VOICE to " + p, IAE, () -> give(gate, 0, VOICE, p));
            Due.is("goal of " + p, gate.prove(p, CREATE, 0), -1);
            Due.throwing("request of " + p, IAE, () -> gate.request(p, CREATE, 0, 1, false));
        }
    }

    @Sentence(of = "Terms", words = "OBJECTS 0 .. 5")
    static void objects() {
        for (int o = 0; o <= 5; o++) {
            ProofGate gate = new ProofGate(5);
            Due.is("GRANT of " + o, give(gate, ROOT, GRANT, 3, CREATE, o), 1);
            Due.is("goal with " + o, gate.prove(3, CREATE, o), 1);
            Due.is("request of " + o, gate.request(3, CREATE, o, 1, false), 0);
            for (int other = 0; other <= 5; other++) {
                Due.is("owner of " + other, gate.owner(other), other == o ? 3 : -1);
            }
        }
        for (int o : NOT_0_TO_5) {
            ProofGate gate = new ProofGate(5);
            Due.throwing("GRANT of " + o, IAE, () -> give(gate, ROOT, GRANT, 3, CREATE, o));
            Due.is("goal with " + o, gate.prove(3, CREATE, o), -1);
            Due.throwing("request of " + o, IAE, () -> gate.request(3, CREATE, o, 1, false));
        }
    }

    @Sentence(of = "Terms", words = "RIGHTS 0 READ, 1 WRITE, 2 OWN, 3 CREATE.")
    static void rights() {
        for (int r = READ; r <= CREATE; r++) {
            ProofGate gate = withObject(2, 1, 77);
            int o = r == CREATE ? 0 : 1;
            give(gate, r == CREATE ? ROOT : 2, GRANT, 3, r, o);
            for (int other = READ; other <= CREATE; other++) {
                Due.is("right " + other, gate.prove(3, other, other == CREATE ? 0 : 1), other == r ? 1 : -2);
            }
        }
        for (int r : NOT_0_TO_3) {
            ProofGate gate = withObject(2, 1, 77);
            Due.throwing("GRANT of right " + r, IAE, () -> give(gate, 2, GRANT, 3, r, 1));
            Due.is("right " + r, gate.prove(3, r, 1), -1);
            Due.is("right " + r + " with what is not there", gate.prove(3, r, 0), -1);
        }
    }

    @Sentence(of = "Terms", words = "An object is not there (at first), or has an OWNER and a VALUE, an int.")
    static void ownersAndValues() {
        ProofGate gate = new ProofGate(5);
        int[] values = {MIN, MAX, -1, 0, 1, 77};
        for (int o = 0; o <= 5; o++) {
            int object = o;
            Due.is("owner at first", gate.owner(o), -1);
            Due.throwing("value at first", NSE, () -> gate.request(0, READ, object, 0, false));
            give(gate, ROOT, GRANT, 5 - o, CREATE, o);
            give(gate, 5 - o, GRANT, 5 - o, READ, o);
            gate.request(5 - o, CREATE, o, values[o], false);
        }
        for (int o = 0; o <= 5; o++) {
            Due.is("owner of " + o, gate.owner(o), 5 - o);
            Due.is("value of " + o, gate.request(5 - o, READ, o, 9, false), values[o]);
        }
    }

    @Sentence(of = "Terms", words = "The TIME is 0 at first.")
    static void timeAtFirst() {
        ProofGate gate = new ProofGate(5);
        int[][] times = {{0, 0}, {MIN, 0}, {0, MAX}, {1, MAX}, {MIN, -1}};
        for (int number = 1; number <= times.length; number++) {
            giveFor(gate, times[number - 1][0], times[number - 1][1], 1, VOICE, 2);
            Due.is("from " + times[number - 1][0] + " to " + times[number - 1][1], gate.valid(number), number <= 3);
        }
        Due.is("the time after 1", gate.pass(1), 1);
    }

    @Sentence(of = "Terms", words = "a trusts b with r of o, d (0 .. 3) deep.")
    static void depths() {
        for (int d = 0; d <= 3; d++) {
            Due.is("depth " + d, give(new ProofGate(5), 0, TRUST, 1, READ, 0, d), 1);
        }
        for (int d : NOT_0_TO_3) {
            Due.throwing("depth " + d, IAE, () -> give(new ProofGate(5), 0, TRUST, 1, READ, 0, d));
        }
    }

    @Sentence(of = "Terms", words = "A CREDENTIAL has a number 1, 2, ..")
    static void numbersOfCredentials() {
        ProofGate gate = new ProofGate(5);
        for (int number = 1; number <= 24; number++) {
            Due.is("not there yet", gate.valid(number), false);
            Due.is("credential", give(gate, ROOT, GRANT, number % 6, CREATE, number % 4), number);
            Due.is("it is there", gate.valid(number), true);
        }
        for (int number = 1; number <= 24; number++) {
            steps(gate, 1, number, 0);
            Due.is("what " + number + " says", gate.check(number % 6, CREATE, number % 4), true);
        }
        Due.is("there is no 0", gate.valid(0), false);
    }

    @Sentence(of = "Terms", words = "It is VALID when it is not revoked and the time is from its first to its last.")
    static void validity() {
        ProofGate gate = new ProofGate(5);
        int[][] times = {{2, 4}, {3, 3}, {4, 3}, {-5, -1}, {MIN, MAX}, {4, MAX}, {2, 4}};
        for (int[] time : times) {
            giveFor(gate, time[0], time[1], 1, VOICE, 1);
        }
        String[] due = {"0000100", "0000100", "1000101", "1100100", "1000110", "0000110"};
        for (int time = 0; time < due.length; time++) {
            for (int number = 1; number <= times.length; number++) {
                boolean valid = due[time].charAt(number - 1) == '1';
                Due.is("credential " + number + " at " + time, gate.valid(number), valid);
            }
            if (time == 2) {
                gate.revoke(1, 7);
            }
            gate.pass(1);
        }
    }

    @Sentence(of = "Terms", words = "kind 0 GRANT (x, r, o): MAY(i, x, r, o).")
    static void saidByGrant() {
        provesOnly((gate, r, o) -> give(gate, 2, GRANT, 4, r, o), 1, 2, 0);
        ProofGate gate = withObject(2, 1, 77);
        give(gate, 4, GRANT, 3, WRITE, 1);
        steps(gate, 1, 2, 0);
        Due.is("said by one who is not the owner", gate.check(3, WRITE, 1), false);
    }

    @Sentence(of = "Terms", words = "1 VOICE (b): SPEAKS(b, i).")
    static void saidByVoice() {
        for (int i = 0; i <= 1; i++) {
            ProofGate gate = new ProofGate(5);
            give(gate, i, VOICE, 1 - i);
            give(gate, 1, GRANT, 5, CREATE, 0);
            Due.is("1 speaks for 0", proofFor(gate, 5), i == 0 ? "1:1,0 1:2,0 2:0,1" : "-2");
            steps(gate, 1, 1, 0, 1, 2, 0, 2, 0, 1);
            Due.is("and its proof", gate.check(5, CREATE, 0), i == 0);
        }
    }

    @Sentence(of = "Terms", words = "2 TRUST (b, r, o, d): TRUSTS(i, b, r, o, d).")
    static void saidByTrust() {
        int[][] trusts = {{0, 1, CREATE, 0, 0}, {1, 0, CREATE, 0, 0}, {0, 2, CREATE, 0, 0}, {0, 1, WRITE, 0, 0},
            {0, 1, CREATE, 1, 0}};
        for (int[] trust : trusts) {
            boolean takes = trust == trusts[0];
            ProofGate gate = new ProofGate(5);
            give(gate, trust[0], TRUST, trust[1], trust[2], trust[3], trust[4]);
            give(gate, 1, GRANT, 5, CREATE, 0);
            Due.is("TRUST " + Arrays.toString(trust), proofFor(gate, 5), takes ? "1:1,0 1:2,0 3:0,1" : "-2");
            steps(gate, 1, 1, 0, 1, 2, 0, 3, 0, 1);
            Due.is("and its proof", gate.check(5, CREATE, 0), takes);
        }
    }

    @Sentence(of = "Terms", words = "3 IMPLY (r, s): whom i says may do r with an object may do s with it.")
    static void saidByImply() {
        for (int o = 0; o <= 5; o++) {
            ProofGate gate = new ProofGate(5);
            give(gate, ROOT, IMPLY, WRITE, CREATE);
            give(gate, ROOT, GRANT, 5, WRITE, o);
            Due.is("with object " + o, gate.prove(5, CREATE, o), 2);
            Due.is("its proof", draft(gate), "1:2,0 7:1,0");
            Due.is("with another object", gate.prove(5, CREATE, (o + 1) % 6), -2);
            Due.is("another principal", gate.prove(4, CREATE, o), -2);
        }
        ProofGate gate = withObject(2, 1, 77);
        give(gate, 2, IMPLY, WRITE, READ);
        give(gate, 2, GRANT, 5, READ, 1);
        Due.is("not the other way", gate.prove(5, WRITE, 1), -2);
    }

    /**
     * Credentials 1 to 14 say what steps 0 to 13 have as facts; 15 is an IMPLY of the root, and with
     * 16 a proof can end well whatever stands before.
     */
    private static ProofGate withFacts() {
        ProofGate gate = new ProofGate(5);
        give(gate, 0, VOICE, 1);
        give(gate, 1, VOICE, 2);
        give(gate, 0, TRUST, 1, CREATE, 0, 1);
        give(gate, 0, TRUST, 1, CREATE, 0, 0);
        give(gate, 1, TRUST, 2, CREATE, 0, 0);
        give(gate, 1, TRUST, 2, WRITE, 0, 0);
        give(gate, 1, TRUST, 2, CREATE, 1, 0);
        give(gate, 3, TRUST, 2, CREATE, 0, 0);
        give(gate, 2, GRANT, 5, CREATE, 0);
        give(gate, 1, GRANT, 5, CREATE, 0);
        give(gate, 1, GRANT, 5, WRITE, 0);
        give(gate, 1, GRANT, 5, CREATE, 1);
        give(gate, 0, GRANT, 5, WRITE, 0);
        give(gate, 0, GRANT, 5, READ, 0);
        give(gate, 0, IMPLY, WRITE, CREATE);
        give(gate, ROOT, GRANT, 4, CREATE, 0);
        return gate;
    }

    private static final int FACTS = 14;
    private static final int IMPLIES = 15;
    private static final int ENDS_WELL = 16;

    /** Whether a step is as its rule asks, behind one step for each of the facts. */
    private static boolean stands(int rule, int x, int y) {
        ProofGate gate = withFacts();
        sayAll(gate, 1, FACTS);
        gate.step(rule, x, y);
        gate.step(1, ENDS_WELL, 0);
        return gate.check(4, CREATE, 0);
    }

    /** Of all pairs of the facts the rule takes these and no others. */
    private static void takesOnly(int rule, int[][] pairs) {
        for (int x = 0; x < FACTS; x++) {
            for (int y = 0; y < FACTS; y++) {
                int[] pair = {x, y};
                boolean due = Arrays.stream(pairs).anyMatch(p -> Arrays.equals(p, pair));
                Due.is("rule " + rule + " with " + Arrays.toString(pair), stands(rule, x, y), due);
            }
        }
    }

    private interface Giver {
        void give(ProofGate gate, int r, int o);
    }

    /**
     * With what is given, each right and object in turn, the steps prove that 4 may do the right with
     * the object, and nothing else. The owner is 2, whose credential 1 is not needed.
     */
    private static void provesOnly(Giver giver, int... draft) {
        for (int o = 0; o <= 5; o++) {
            for (int r = READ; r <= OWN; r++) {
                ProofGate gate = withObject(2, o, 77);
                giver.give(gate, r, o);
                steps(gate, draft);
                isProofOnlyOf(gate, r, o);
            }
        }
    }

    private static void isProofOnlyOf(ProofGate gate, int right, int object) {
        for (int p = 0; p <= 5; p++) {
            for (int r = READ; r <= CREATE; r++) {
                for (int o = 0; o <= 5; o++) {
                    boolean due = p == 4 && r == right && o == object;
                    Due.is("goal of " + p + " for " + r + " with " + o, gate.check(p, r, o), due);
                }
            }
        }
    }

    @Sentence(of = "Rules", words = "1: what a valid credential of kind 0, 1 or 2 says.")
    static void rule1() {
        ProofGate gate = new ProofGate(5);
        give(gate, ROOT, GRANT, 2, CREATE, 0);
        give(gate, 1, VOICE, 2);
        give(gate, 1, TRUST, 2, READ, 0, 3);
        give(gate, ROOT, IMPLY, 2, CREATE);
        giveFor(gate, 1, 99, ROOT, GRANT, 2, CREATE, 0);
        giveFor(gate, -9, -1, ROOT, GRANT, 2, CREATE, 0);
        give(gate, ROOT, GRANT, 2, CREATE, 0);
        gate.revoke(ROOT, 7);
        String[] what = {"", "GRANT", "VOICE", "TRUST", "IMPLY", "one too early", "one too late", "one revoked"};
        for (int number = 1; number <= 7; number++) {
            steps(gate, 1, number, 0, 1, 1, 0);
            Due.is(what[number] + " by rule 1", gate.check(2, CREATE, 0), number <= 3);
            steps(gate, 1, number, 0);
            Due.is(what[number] + " says that 2 may", gate.check(2, CREATE, 0), number == 1);
        }
    }

    @Sentence(of = "Rules", words = "2: SPEAKS(b, a) and MAY(b, x, r, o) give MAY(a, x, r, o).")
    static void rule2() {
        takesOnly(2, new int[][] {{0, 9}, {0, 10}, {0, 11}, {1, 8}});
        provesOnly((gate, r, o) -> {
            give(gate, 2, VOICE, 3);
            give(gate, 3, GRANT, 4, r, o);
        }, 1, 2, 0, 1, 3, 0, 2, 0, 1);
    }

    @Sentence(of = "Rules", words = "3: TRUSTS(a, b, r, o, d) and MAY(b, x, r, o) give MAY(a, x, r, o).")
    static void rule3() {
        takesOnly(3, new int[][] {{2, 9}, {3, 9}, {4, 8}, {7, 8}});
        provesOnly((gate, r, o) -> {
            give(gate, 2, TRUST, 3, r, o, 0);
            give(gate, 3, GRANT, 4, r, o);
        }, 1, 2, 0, 1, 3, 0, 3, 0, 1);
    }

    @Sentence(of = "Rules", words = "4: TRUSTS(a, b, r, o, d), d above 0, and TRUSTS(b, c, r, o, e) give "
            + "TRUSTS(a, c, r, o, m)")
    static void rule4() {
        takesOnly(4, new int[][] {{2, 4}});
        provesOnly((gate, r, o) -> {
            give(gate, 2, TRUST, 3, r, o, 1);
            give(gate, 3, TRUST, 5, r, o, 0);
            give(gate, 5, GRANT, 4, r, o);
        }, 1, 2, 0, 1, 3, 0, 4, 0, 1, 1, 4, 0, 3, 2, 3);
    }

    @Sentence(of = "Rules", words = "5: SPEAKS(b, a) and TRUSTS(b, c, r, o, d) give TRUSTS(a, c, r, o, d).")
    static void rule5() {
        takesOnly(5, new int[][] {{0, 4}, {0, 5}, {0, 6}});
        provesOnly((gate, r, o) -> {
            give(gate, 2, VOICE, 3);
            give(gate, 3, TRUST, 5, r, o, 0);
            give(gate, 5, GRANT, 4, r, o);
        }, 1, 2, 0, 1, 3, 0, 5, 0, 1, 1, 4, 0, 3, 2, 3);
    }

    @Sentence(of = "Rules", words = "6: SPEAKS(c, b) and SPEAKS(b, a) give SPEAKS(c, a).")
    static void rule6() {
        takesOnly(6, new int[][] {{1, 0}});
        provesOnly((gate, r, o) -> {
            give(gate, 2, VOICE, 3);
            give(gate, 3, VOICE, 5);
            give(gate, 5, GRANT, 4, r, o);
        }, 1, 3, 0, 1, 2, 0, 6, 0, 1, 1, 4, 0, 2, 2, 3);
    }

    @Sentence(of = "Rules", words = "7: a valid credential IMPLY (r, s) of a and MAY(a, x, r, o) give MAY(a, x, s, o).")
    static void rule7() {
        for (int number = 0; number <= ENDS_WELL + 1; number++) {
            for (int y = 0; y < FACTS; y++) {
                boolean due = number == IMPLIES && y == 12;
                Due.is("rule 7 with " + number + ", " + y, stands(7, number, y), due);
            }
        }
        provesOnly((gate, r, o) -> {
            give(gate, 2, IMPLY, (r + 1) % 4, r);
            give(gate, 2, GRANT, 4, (r + 1) % 4, o);
        }, 1, 3, 0, 7, 2, 0);
    }

    @Sentence(of = "Rules", words = "7: a valid credential IMPLY (r, s)")
    static void rule7ValidOnly() {
        int[][] times = {{0, 0}, {1, 9}, {-9, -1}, {0, 9}};
        for (int[] time : times) {
            ProofGate gate = new ProofGate(5);
            give(gate, ROOT, GRANT, 5, WRITE, 0);
            giveFor(gate, time[0], time[1], ROOT, IMPLY, WRITE, CREATE);
            if (time == times[3]) {
                gate.revoke(ROOT, 2);
            }
            steps(gate, 1, 1, 0, 7, 2, 0);
            Due.is("checked, for times " + Arrays.toString(time), gate.check(5, CREATE, 0), time == times[0]);
            Due.is("found, for times " + Arrays.toString(time), proofFor(gate, 5),
                    time == times[0] ? "1:1,0 7:2,0" : "-2");
        }
    }

    @Sentence(of = "Rules", words = "MAY(a, x, r, o) give MAY(a, x, s, o)")
    static void rule7SameRight() {
        ProofGate gate = withGrant();
        give(gate, ROOT, IMPLY, CREATE, CREATE);
        steps(gate, 1, 1, 0, 7, 2, 0);
        Due.is("checked", gate.check(5, CREATE, 0), true);
        Due.is("found without it", proofFor(gate, 5), "1:1,0");
    }

    /** Principal i trusts i + 1, so deep, with CREATE of object 0. */
    private static ProofGate withRowOfTrust(int... depths) {
        ProofGate gate = new ProofGate(5);
        for (int i = 0; i < depths.length; i++) {
            give(gate, i, TRUST, i + 1, CREATE, 0, depths[i]);
        }
        return gate;
    }

    /** Rule 4 so many times more, each with the next credential; what was trusted deep enough stands. */
    private static boolean goesOnBy(ProofGate gate, int more, int nextCredential) {
        for (int i = 0; i < more; i++) {
            gate.step(1, nextCredential + i, 0);
            gate.step(4, gate.steps() - 2, gate.steps() - 1);
        }
        gate.step(1, give(gate, ROOT, GRANT, 5, CREATE, 0), 0);
        return gate.check(5, CREATE, 0);
    }

    @Sentence(of = "Rules", words = "m the less of d - 1 and e.")
    static void depthByRule4() {
        for (int d = 1; d <= 3; d++) {
            for (int e = 0; e <= 3; e++) {
                for (int more = 0; more <= 3; more++) {
                    ProofGate gate = withRowOfTrust(d, e, 3, 3, 3);
                    steps(gate, 1, 1, 0, 1, 2, 0, 4, 0, 1);
                    boolean due = more <= d - 1 && more <= e;
                    Due.is("d " + d + ", e " + e + ", " + more + " more", goesOnBy(gate, more, 3), due);
                }
            }
        }
    }

    @Sentence(of = "Rules", words = "4: TRUSTS(a, b, r, o, d), d above 0")
    static void rule4NeedsDepth() {
        for (int d = 0; d <= 3; d++) {
            ProofGate gate = withRowOfTrust(d, 0);
            steps(gate, 1, 1, 0, 1, 2, 0, 4, 0, 1);
            Due.is("checked, d " + d, goesOnBy(gate, 0, 3), d > 0);
            gate = withRowOfTrust(d, 0);
            give(gate, 2, IMPLY, WRITE, CREATE);
            give(gate, 2, GRANT, 5, WRITE, 0);
            Due.is("found, d " + d, proofFor(gate, 5), d > 0 ? "1:1,0 1:2,0 4:0,1 1:4,0 7:3,3 3:2,4"
                    : "1:1,0 1:2,0 1:4,0 7:3,2 3:1,3 3:0,4");
        }
    }

    @Sentence(of = "Rules", words = "TRUSTS(b, c, r, o, d) give TRUSTS(a, c, r, o, d)")
    static void depthByRule5() {
        for (int d = 0; d <= 3; d++) {
            for (int more = 0; more <= 4; more++) {
                ProofGate gate = new ProofGate(5);
                give(gate, 0, VOICE, 1);
                give(gate, 1, TRUST, 2, CREATE, 0, d);
                for (int i = 2; i <= 4; i++) {
                    give(gate, i, TRUST, i + 1, CREATE, 0, 3);
                }
                give(gate, 5, TRUST, 0, CREATE, 0, 3);
                steps(gate, 1, 1, 0, 1, 2, 0, 5, 0, 1);
                Due.is("d " + d + ", " + more + " more", goesOnBy(gate, more, 3), more <= d);
            }
        }
    }

    @Sentence(of = "A proof", words = "A PROOF is a row of at most 40 STEPS, numbered from 0")
    static void proofOf40() {
        ProofGate gate = new ProofGate(5);
        give(gate, ROOT, VOICE, 1);
        give(gate, 1, GRANT, 5, CREATE, 0);
        for (int last = 38; last >= 1; last -= 37) {
            steps(gate, 1, 1, 0);
            for (int k = 1; k <= 38; k++) {
                Due.is("step", gate.step(1, k == last ? 2 : 1, 0), k);
            }
            Due.is("the last step", gate.step(2, 0, last), 39);
            Due.is("no 41st", gate.step(0, 0, 0), -1);
            Due.is("40 steps, the last on " + last, gate.check(5, CREATE, 0), true);
        }
        Due.is("granted by 40 steps", gate.request(5, CREATE, 0, 1, true), 0);
        Due.is("chain", gate.chain(), link(0, 5, CREATE, 0, 40));
    }

    @Sentence(of = "A proof", words = "each a rule, a number x and a number y")
    static void noSuchRule() {
        for (int rule : new int[] {MIN, -1, 0, 8, 9, MAX}) {
            for (int[] pair : new int[][] {{0, 9}, {3, 9}, {2, 4}, {0, 4}, {1, 0}, {1, 1}, {IMPLIES, 12}}) {
                Due.is("rule " + rule + " with " + Arrays.toString(pair), stands(rule, pair[0], pair[1]), false);
            }
        }
    }

    @Sentence(of = "A proof", words = "with rule 1 x is a credential")
    static void rule1NeedsCredential() {
        for (int number : new int[] {MIN, -1, 0, ENDS_WELL + 1, 24, 25, MAX}) {
            Due.is("no credential " + number, stands(1, number, 0), false);
        }
        Due.is("the first credential", stands(1, 1, 0), true);
        Due.is("the last credential", stands(1, ENDS_WELL, 0), true);
    }

    @Sentence(of = "A proof", words = "(y means nothing; the prover writes 0)")
    static void yOfRule1() {
        for (int y : new int[] {MIN, -1, 0, 1, FACTS, FACTS + 1, 39, 40, MAX}) {
            Due.is("y is " + y, stands(1, 1, y), true);
        }
        ProofGate gate = withProofOf(40);
        gate.prove(5, CREATE, 0);
        for (int k = 0; k < 40; k++) {
            Due.is("y of a step by rule 1", gate.stepAt(k, 0) != 1 || gate.stepAt(k, 2) == 0, true);
        }
    }

    /** Rules 2 to 6, each with two credentials that say what it takes. */
    private static final int[][] TAKEN = {{2, 1, 10}, {3, 3, 10}, {4, 3, 5}, {5, 1, 5}, {6, 2, 1}};

    @Sentence(of = "A proof", words = "with 2 to 6 x and y are earlier steps")
    static void earlierStepsOnly() {
        for (int[] t : TAKEN) {
            int[][] drafts = {
                {t[0], 1, 2, 1, t[1], 0, 1, t[2], 0}, {1, t[1], 0, t[0], 0, 2, 1, t[2], 0},
                {1, t[2], 0, t[0], 2, 0, 1, t[1], 0}, {1, t[1], 0, t[0], 0, 1, 1, t[2], 0},
                {1, t[2], 0, t[0], 1, 0, 1, t[1], 0}, {1, t[1], 0, 1, t[2], 0, t[0], 0, 2},
                {1, t[1], 0, 1, t[2], 0, t[0], 2, 1}, {1, t[1], 0, 1, t[2], 0, t[0], 0, 3},
                {1, t[1], 0, 1, t[2], 0, t[0], 0, -1}, {1, t[1], 0, 1, t[2], 0, t[0], -1, 1},
                {1, t[1], 0, 1, t[2], 0, t[0], 0, MAX}, {1, t[1], 0, 1, t[2], 0, t[0], MAX, 1},
                {1, t[1], 0, 1, t[2], 0, t[0], 0, MIN}, {1, t[1], 0, 1, t[2], 0, t[0], MIN, 1},
                {1, t[1], 0, 1, t[2], 0, t[0], 0, 40}, {1, t[1], 0, 1, t[2], 0, t[0], 40, 1}};
            for (int[] draft : drafts) {
                isNoProofAfter(draft, 1, t[1], 0, 1, t[2], 0, t[0], 0, 1);
                isNoProofAfter(draft, 1, t[2], 0, 1, t[1], 0, t[0], 1, 0);
            }
        }
    }

    /** A right proof is checked first: nothing of it may be left for the wrong one. */
    private static void isNoProofAfter(int[] wrong, int... right) {
        ProofGate gate = withFacts();
        steps(gate, right);
        gate.step(1, ENDS_WELL, 0);
        Due.is("draft " + Arrays.toString(right), gate.check(4, CREATE, 0), true);
        steps(gate, wrong);
        gate.step(1, ENDS_WELL, 0);
        Due.is("draft " + Arrays.toString(wrong), gate.check(4, CREATE, 0), false);
    }

    @Sentence(of = "A proof", words = "the facts of which are those that the rule takes, in the order above")
    static void orderOfXAndY() {
        for (int[] t : TAKEN) {
            Due.is("rule " + t[0], stands(t[0], t[1] - 1, t[2] - 1), true);
            Due.is("rule " + t[0] + " the other way round", stands(t[0], t[2] - 1, t[1] - 1), false);
            for (int rule = 2; rule <= 6; rule++) {
                Due.is("rule " + rule + " in place of " + t[0], stands(rule, t[1] - 1, t[2] - 1), rule == t[0]);
            }
        }
    }

    @Sentence(of = "A proof", words = "with 7 x is a credential and y an earlier step.")
    static void rule7NeedsEarlierStep() {
        int[][] drafts = {{1, 13, 0, 7, 15, 1}, {7, 15, 0, 1, 13, 0}, {7, 15, 1, 1, 13, 0}, {1, 13, 0, 7, 15, -1},
            {1, 13, 0, 7, 15, 2}, {1, 13, 0, 7, 15, MAX}, {1, 13, 0, 7, 15, MIN}, {1, 13, 0, 7, 0, 0},
            {1, 13, 0, 7, -1, 0}, {1, 13, 0, 7, 17, 0}, {1, 13, 0, 7, MAX, 0}, {1, 13, 0, 7, MIN, 0}};
        for (int[] draft : drafts) {
            isNoProofAfter(draft, 1, 13, 0, 1, 13, 0, 7, 15, 1);
        }
    }

    @Sentence(of = "A proof", words = "It PROVES the fact of its last step")
    static void lastStepCounts() {
        ProofGate gate = new ProofGate(5);
        give(gate, ROOT, GRANT, 2, CREATE, 0);
        give(gate, ROOT, GRANT, 2, CREATE, 1);
        give(gate, ROOT, VOICE, 2);
        give(gate, ROOT, TRUST, 2, CREATE, 0, 0);
        steps(gate, 1, 2, 0, 1, 1, 0);
        Due.is("the last step", gate.check(2, CREATE, 0), true);
        Due.is("the one before it", gate.check(2, CREATE, 1), false);
        gate.step(1, 2, 0);
        Due.is("now before the last", gate.check(2, CREATE, 0), false);
        Due.is("now the last", gate.check(2, CREATE, 1), true);
        gate.step(1, 3, 0);
        Due.is("a VOICE is no MAY", gate.check(2, CREATE, 1), false);
        steps(gate, 1, 4, 0);
        Due.is("nor is a TRUST", gate.check(2, CREATE, 0), false);
    }

    @Sentence(of = "A proof", words = "when each step is so.")
    static void eachStepCounts() {
        ProofGate gate = withGrant();
        give(gate, ROOT, GRANT, 2, WRITE, 0);
        for (int wrong : new int[] {0, 1, 20, 38, 39}) {
            gate.clear();
            for (int k = 0; k < 40; k++) {
                gate.step(k == wrong ? 8 : 1, 1, 0);
            }
            Due.is("wrong step " + wrong + " of 40", gate.check(5, CREATE, 0), false);
        }
        steps(gate, 1, 2, 0, 1, 1, 0);
        Due.is("a step that is not needed", gate.check(5, CREATE, 0), true);
        gate.revoke(ROOT, 2);
        Due.is("must hold all the same", gate.check(5, CREATE, 0), false);
    }

    @Sentence(of = "A proof", words = "(A proof of no steps proves nothing.)")
    static void noSteps() {
        ProofGate gate = withReadable();
        give(gate, ROOT, GRANT, 5, CREATE, 0);
        steps(gate, 1, 2, 0);
        Due.is("a proof of one step", gate.check(2, READ, 1), true);
        gate.clear();
        for (int p = 0; p <= 5; p++) {
            for (int r = READ; r <= CREATE; r++) {
                for (int o = 0; o <= 5; o++) {
                    Due.is("a proof of none", gate.check(p, r, o), false);
                }
            }
        }
        Due.throwing("nothing is granted by it", UOE, () -> gate.request(2, READ, 1, 0, true));
    }

    @Sentence(of = "The goal", words = "THE GOAL of principal p for right r with object o: MAY(the owner, p, r, o)")
    static void goalOfOwner() {
        for (int r = READ; r <= OWN; r++) {
            for (int sayer = 0; sayer <= 5; sayer++) {
                ProofGate gate = withObject(2, 1, 77);
                give(gate, sayer, GRANT, 4, r, 1);
                steps(gate, 1, 2, 0);
                Due.is("checked, said by " + sayer, gate.check(4, r, 1), sayer == 2);
                Due.is("found, said by " + sayer, gate.prove(4, r, 1), sayer == 2 ? 1 : -2);
                Due.is("the owner needs to be told, too", gate.prove(2, r, 1), -2);
            }
        }
        ProofGate gate = withObject(2, 1, 77);
        give(gate, 2, GRANT, 4, OWN, 1);
        give(gate, 3, GRANT, 4, OWN, 1);
        gate.request(4, OWN, 1, 3, false);
        steps(gate, 1, 2, 0);
        Due.is("said by the old owner", gate.check(4, OWN, 1), false);
        steps(gate, 1, 3, 0);
        Due.is("said by the new owner", gate.check(4, OWN, 1), true);
        Due.is("found of the new owner", gate.prove(4, OWN, 1), 1);
        Due.is("its proof", draft(gate), "1:3,0");
    }

    @Sentence(of = "The goal", words = "for CREATE MAY(0, p, 3, o).")
    static void goalOfCreate() {
        for (int sayer = 0; sayer <= 5; sayer++) {
            for (int o = 0; o <= 5; o++) {
                ProofGate gate = new ProofGate(5);
                give(gate, sayer, GRANT, 4, CREATE, o);
                steps(gate, 1, 1, 0);
                Due.is("checked, said by " + sayer, gate.check(4, CREATE, o), sayer == ROOT);
                Due.is("found, said by " + sayer, gate.prove(4, CREATE, o), sayer == ROOT ? 1 : -2);
            }
        }
    }
}

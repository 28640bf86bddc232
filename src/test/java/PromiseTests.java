import java.util.Arrays;

/** The sentences of the promises, each with a test of its own. */
public final class PromiseTests extends Gates {
    private PromiseTests() {
    }

    public static void main(String[] args) {
        Sentences.runAll(PromiseTests.class);
    }

    @Sentence(of = "Promise 1", words = "No objects")
    static void newHasNoObjects() {
        ProofGate gate = new ProofGate(MIN);
        for (int o = 0; o <= 5; o++) {
            int object = o;
            Due.is("owner", gate.owner(o), -1);
            Due.is("prove READ", gate.prove(0, READ, o), -1);
            Due.throwing("read", NSE, () -> gate.request(0, READ, object, 0, false));
        }
    }

    @Sentence(of = "Promise 1", words = "no credentials")
    static void newHasNoCredentials() {
        ProofGate gate = new ProofGate(MAX);
        Due.is("credentials", gate.credentials(), 0);
        for (int number = 0; number <= 24; number++) {
            Due.is("valid", gate.valid(number), false);
        }
        Due.throwing("revoke", NSE, () -> bit(gate.revoke(0, 1)));
        Due.is("prove CREATE", gate.prove(0, CREATE, 0), -2);
    }

    @Sentence(of = "Promise 1", words = "time 0")
    static void newHasTime0() {
        ProofGate gate = new ProofGate(0);
        giveFor(gate, 0, 0, 1, VOICE, 2);
        Due.is("valid at 0 alone", gate.valid(1), true);
        Due.is("a second gate does not share it", new ProofGate(0).pass(7) + gate.pass(3), 10);
    }

    @Sentence(of = "Promise 1", words = "an empty draft")
    static void newHasEmptyDraft() {
        ProofGate gate = new ProofGate(-1);
        Due.is("steps", gate.steps(), 0);
        Due.is("stepAt", gate.stepAt(0, 0), -1);
        Due.is("clear", gate.clear(), 0);
        Due.is("the first step", gate.step(1, 1, 1), 0);
    }

    @Sentence(of = "Promise 1", words = "no fuse.")
    static void newHasNoFuse() {
        ProofGate gate = withReadable();
        for (int i = 0; i < 60; i++) {
            Due.is("record " + i, gate.request(2, READ, 1, 0, false), 77);
        }
    }

    @Sentence(of = "Promise 2", words = "The seal of a credential with these numbers.")
    static void sealFitsSubmit() {
        int[][] credentials = {{5, GRANT, 5, CREATE, 5, 0}, {5, VOICE, 5, 0, 0, 0}, {5, TRUST, 5, CREATE, 5, 3},
            {5, IMPLY, CREATE, CREATE, 0, 0}, {0, GRANT, 0, 0, 0, 0}};
        for (int[] n : credentials) {
            for (int time : new int[] {MIN, -1, 0, 9, MAX}) {
                ProofGate gate = new ProofGate(MAX);
                int seal = gate.seal(n[0], n[1], n[2], n[3], n[4], n[5], time, -time);
                gate.set(n[2], n[3], n[4], n[5]);
                Due.is("submit " + Arrays.toString(n), gate.submit(n[0], n[1], time, -time, seal), 1);
            }
        }
    }

    @Sentence(of = "Promise 2", words = "(Anyone may ask: the script knows when it forges.)")
    static void sealOfAnything() {
        ProofGate gate = new ProofGate(5);
        gate.set(2, 3, 1, 0);
        gate.step(1, 1, 0);
        gate.fuse(0);
        for (int n : new int[] {MIN, -1, 0, 6, MAX}) {
            Due.is("seal of " + n, gate.seal(n, n, n, n, n, n, n, n), Model.seal(5, new int[] {n, n, n, n, n, n, n, n}));
        }
        Due.is("to ask takes nothing", gate.credentials(), 0);
        Due.is("the draft stays", gate.steps(), 1);
        gate.fuse(1);
        Due.is("the numbers that were set stay", gate.submit(0, GRANT, 0, 9, 1316120149), 1);
    }

    @Sentence(of = "Promise 3", words = "is submitted with a seal: its number.")
    static void submitAnswersNumber() {
        ProofGate gate = new ProofGate(5);
        gate.set(2, 3, 1, 0);
        for (int number = 1; number <= 24; number++) {
            Due.is("the same again", gate.submit(0, GRANT, 0, 9, 1316120149), number);
            Due.is("credentials", gate.credentials(), number);
        }
    }

    @Sentence(of = "Promise 3", words = "for times first to last")
    static void submitForAnyTimes() {
        int[][] times = {{0, 0}, {1, 1}, {9, 0}, {MIN, MAX}, {MAX, MIN}, {-1, -1}, {MAX, MAX}};
        ProofGate gate = new ProofGate(5);
        for (int i = 0; i < times.length; i++) {
            Due.is("times " + Arrays.toString(times[i]), giveFor(gate, times[i][0], times[i][1], 0, VOICE, 1), i + 1);
            Due.is("valid now", gate.valid(i + 1), times[i][0] <= 0 && times[i][1] >= 0);
        }
    }

    @Sentence(of = "Promise 3", words = "IllegalArgumentException when there is no such issuer")
    static void submitOfNoIssuer() {
        ProofGate gate = new ProofGate(5);
        for (int issuer : NOT_0_TO_5) {
            Due.throwing("issuer " + issuer, IAE, () -> give(gate, issuer, GRANT, 2, 3, 1));
            Due.throwing("with a wrong seal", IAE, () -> gate.submit(issuer, GRANT, 0, 99, 1));
        }
        Due.is("nothing was taken", gate.credentials(), 0);
        Due.is("issuer 0", give(gate, 0, GRANT, 2, 3, 1), 1);
        Due.is("issuer 5", give(gate, 5, GRANT, 2, 3, 1), 2);
    }

    @Sentence(of = "Promise 3", words = "or kind")
    static void submitOfNoKind() {
        ProofGate gate = new ProofGate(5);
        for (int kind : NOT_0_TO_3) {
            Due.throwing("kind " + kind, IAE, () -> give(gate, 0, kind, 0, 0, 0, 0));
            Due.throwing("with a wrong seal", IAE, () -> gate.submit(0, kind, 0, 99, 1));
        }
        Due.is("nothing was taken", gate.credentials(), 0);
        for (int kind = GRANT; kind <= IMPLY; kind++) {
            Due.is("kind " + kind, give(gate, 0, kind, 0, 0, 0, 0), kind + 1);
        }
    }

    @Sentence(of = "Promise 3", words = "or a number that it has is not in its range")
    static void submitOutOfRange() {
        int[][] limits = {{6, 4, 6, 0}, {6, 0, 0, 0}, {6, 4, 6, 4}, {4, 4, 0, 0}};
        for (int kind = GRANT; kind <= IMPLY; kind++) {
            for (int i = 0; i < 4; i++) {
                for (int number : new int[] {MIN, -1, 0, limits[kind][i] - 1, limits[kind][i], 6, MAX}) {
                    boolean fits = limits[kind][i] == 0 || number >= 0 && number < limits[kind][i];
                    int[] n = new int[4];
                    n[i] = number;
                    ProofGate gate = new ProofGate(5);
                    int k = kind;
                    Due.is("kind " + kind + ", number " + i + " is " + number,
                            Due.outcome(() -> give(gate, 5, k, n)), fits ? "1" : "throws.IllegalArgumentException");
                    Due.throwing("and its seal is wrong", fits ? UOE : IAE, () -> gate.submit(5, k, 0, 99, 1));
                }
            }
        }
    }

    @Sentence(of = "Promise 3", words = "UnsupportedOperationException when the seal is not right")
    static void submitWithWrongSeal() {
        ProofGate gate = new ProofGate(5);
        gate.set(2, 3, 1, 0);
        int right = 1316120149;
        for (int seal : new int[] {right - 1, right + 1, -right, ~right, right ^ MIN, 0, MIN, MAX,
            gate.seal(1, GRANT, 2, 3, 1, 0, 0, 9), gate.seal(0, TRUST, 2, 3, 1, 0, 0, 9),
            gate.seal(0, GRANT, 1, 3, 1, 0, 0, 9), gate.seal(0, GRANT, 2, 3, 1, 0, 1, 9),
            gate.seal(0, GRANT, 2, 3, 1, 0, 0, 8), new ProofGate(6).seal(0, GRANT, 2, 3, 1, 0, 0, 9)}) {
            Due.throwing("seal " + seal, UOE, () -> gate.submit(0, GRANT, 0, 9, seal));
        }
        Due.is("nothing was taken", gate.credentials(), 0);
        Due.is("the right seal", gate.submit(0, GRANT, 0, 9, right), 1);
    }

    @Sentence(of = "Promise 3", words = "IllegalStateException when there are 24")
    static void submitWhenFull() {
        ProofGate gate = new ProofGate(5);
        giveMany(gate, 23);
        Due.is("the 24th", give(gate, 1, VOICE, 2), 24);
        Due.throwing("the 25th", ISE, () -> give(gate, 1, VOICE, 2));
        Due.is("credentials", gate.credentials(), 24);
        Due.is("no 25th", gate.valid(25), false);
        gate.revoke(1, 3);
        Due.throwing("a revoked one makes no room", ISE, () -> give(gate, 1, VOICE, 2));
        gate.pass(100);
        Due.throwing("nor do those of the past", ISE, () -> give(gate, 1, VOICE, 2));
        Due.throwing("a wrong seal comes before", UOE, () -> gate.submit(1, VOICE, 0, 99, 1));
        Due.throwing("a wrong kind comes before", IAE, () -> gate.submit(1, 4, 0, 99, 1));
    }

    @Sentence(of = "Promise 3", words = "or the machine crashes.")
    static void submitCrashes() {
        ProofGate gate = new ProofGate(5);
        gate.fuse(0);
        Due.throwing("a wrong kind comes before", IAE, () -> give(gate, 1, 4, 2));
        Due.throwing("a wrong seal comes before", UOE, () -> gate.submit(1, VOICE, 0, 99, 1));
        Due.throwing("crash", ISE, () -> give(gate, 1, VOICE, 2));
        Due.is("it is not taken", gate.credentials(), 0);
        Due.is("after the crash", give(gate, 1, VOICE, 2), 1);
    }

    @Sentence(of = "Promise 3", words = "(Numbers that it has not are taken as 0.)")
    static void submitTakesOthersAs0() {
        int[][] has = {{1, 1, 1, 0}, {1, 0, 0, 0}, {1, 1, 1, 1}, {1, 1, 0, 0}};
        for (int odd : new int[] {MIN, -1, 1, 6, MAX}) {
            for (int kind = GRANT; kind <= IMPLY; kind++) {
                int[] n = has[kind];
                ProofGate gate = new ProofGate(5);
                gate.set(n[0] == 1 ? 2 : odd, n[1] == 1 ? 3 : odd, n[2] == 1 ? 1 : odd, n[3] == 1 ? 3 : odd);
                int seal = gate.seal(0, kind, 2 * n[0], 3 * n[1], n[2], 3 * n[3], 0, 9);
                Due.is("kind " + kind + ", others " + odd, gate.submit(0, kind, 0, 9, seal), 1);
            }
        }
        ProofGate gate = new ProofGate(5);
        give(gate, ROOT, VOICE, 2, CREATE, 1, 3);
        give(gate, 2, GRANT, 3, CREATE, 0, 3);
        Due.is("what they say is the same", gate.prove(3, CREATE, 0), 3);
    }

    @Sentence(of = "Promise 4", words = "Sets the four numbers for submit")
    static void setReplacesAll() {
        for (int i = 0; i < 4; i++) {
            int[] n = {2, 2, 2, 2};
            ProofGate gate = new ProofGate(5);
            gate.set(n[0], n[1], n[2], n[3]);
            n[i] = 1;
            gate.set(n[0], n[1], n[2], n[3]);
            int seal = gate.seal(0, TRUST, n[0], n[1], n[2], n[3], 0, 9);
            Due.is("number " + i, gate.submit(0, TRUST, 0, 9, seal), 1);
            Due.throwing("a refusal", UOE, () -> gate.submit(0, TRUST, 0, 9, seal + 1));
            Due.throwing("another refusal", IAE, () -> gate.submit(6, TRUST, 0, 9, seal));
            Due.is("submit leaves them, taken or refused", gate.submit(0, TRUST, 0, 9, seal), 2);
        }
        ProofGate gate = new ProofGate(5);
        gate.set(MIN, MAX, -1, 99);
        Due.throwing("any may be set, not all fit", IAE,
                () -> gate.submit(0, TRUST, 0, 9, gate.seal(0, TRUST, MIN, MAX, -1, 99, 0, 9)));
    }

    @Sentence(of = "Promise 4", words = "Sets the four numbers for submit")
    static void setLeavesCredentials() {
        ProofGate gate = withGrant();
        gate.set(4, READ, 1, 3);
        Due.is("what was taken stays", gate.prove(5, CREATE, 0), 1);
        Due.is("and no other follows", gate.prove(4, CREATE, 0), -2);
    }

    @Sentence(of = "Promise 4", words = "0 at first")
    static void numbersAtFirst() {
        for (int kind = GRANT; kind <= IMPLY; kind++) {
            ProofGate gate = new ProofGate(5);
            Due.is("kind " + kind, gate.submit(0, kind, 0, 9, gate.seal(0, kind, 0, 0, 0, 0, 0, 9)), 1);
        }
    }

    @Sentence(of = "Promise 4", words = "a crash leaves them")
    static void crashLeavesNumbers() {
        ProofGate gate = new ProofGate(5);
        gate.set(1, 1, 0, 2);
        gate.fuse(0);
        Due.throwing("crash", ISE, () -> gate.submit(0, TRUST, 0, 99, 2090122639));
        Due.is("the same numbers", gate.submit(0, TRUST, 0, 99, 2090122639), 1);
        gate.fuse(0);
        Due.throwing("crash of another call", ISE, () -> bit(gate.revoke(0, 1)));
        Due.is("the same numbers", gate.submit(0, TRUST, 0, 99, 2090122639), 2);
    }

    @Sentence(of = "Promise 5", words = "The issuer revokes its credential: true")
    static void revokes() {
        ProofGate gate = new ProofGate(5);
        give(gate, 0, VOICE, 1);
        giveFor(gate, 5, 6, 5, VOICE, 1);
        giveFor(gate, -6, -5, 3, VOICE, 1);
        give(gate, 0, VOICE, 1);
        Due.is("one that is valid", gate.revoke(0, 1), true);
        Due.is("it is not valid now", gate.valid(1), false);
        Due.is("one that is not valid yet", gate.revoke(5, 2), true);
        Due.is("one of the past", gate.revoke(3, 3), true);
        Due.is("no other is revoked", gate.valid(4), true);
        gate.pass(5);
        Due.is("it never gets valid", gate.valid(2), false);
        Due.is("they are still there", gate.credentials(), 4);
    }

    @Sentence(of = "Promise 5", words = "false when it is revoked already.")
    static void revokesOnce() {
        ProofGate gate = new ProofGate(5);
        giveMany(gate, 2);
        gate.revoke(1, 1);
        Due.is("again", gate.revoke(1, 1), false);
        gate.fuse(0);
        Due.is("without a record", gate.revoke(1, 1), false);
        Due.throwing("the fuse is lit yet", ISE, () -> bit(gate.revoke(1, 2)));
        Due.throwing("not its issuer comes before", UOE, () -> bit(gate.revoke(2, 1)));
        Due.is("it stays revoked", gate.valid(1), false);
    }

    @Sentence(of = "Promise 5", words = "NoSuchElementException when there is no such credential")
    static void revokeOfNone() {
        ProofGate gate = new ProofGate(5);
        Due.throwing("of none", NSE, () -> bit(gate.revoke(1, 1)));
        giveMany(gate, 2);
        for (int number : new int[] {MIN, -1, 0, 3, 24, 25, MAX}) {
            Due.throwing("revoke " + number, NSE, () -> bit(gate.revoke(1, number)));
            Due.throwing("by no principal", NSE, () -> bit(gate.revoke(6, number)));
        }
        giveMany(gate, 22);
        Due.throwing("the 25th of 24", NSE, () -> bit(gate.revoke(1, 25)));
        Due.is("the 24th", gate.revoke(1, 24), true);
    }

    @Sentence(of = "Promise 5", words = "UnsupportedOperationException when p is not its issuer")
    static void revokeOfAnother() {
        ProofGate gate = new ProofGate(5);
        give(gate, 3, VOICE, 1);
        give(gate, 3, VOICE, 0);
        for (int p : new int[] {MIN, -1, 0, 1, 2, 4, 5, 6, MAX}) {
            Due.throwing("revoke by " + p, UOE, () -> bit(gate.revoke(p, 1)));
        }
        Due.is("it is valid yet", gate.valid(1), true);
        gate.fuse(0);
        Due.throwing("before a crash", UOE, () -> bit(gate.revoke(1, 1)));
    }

    @Sentence(of = "Promise 5", words = "IllegalStateException when the machine crashes.")
    static void revokeCrashes() {
        ProofGate gate = new ProofGate(5);
        giveMany(gate, 1);
        gate.fuse(0);
        Due.throwing("crash", ISE, () -> bit(gate.revoke(1, 1)));
        Due.is("it is valid yet", gate.valid(1), true);
        Due.is("now it goes", gate.revoke(1, 1), true);
    }

    @Sentence(of = "Promise 6", words = "Time goes on by n (1 .. 100): the time")
    static void passes() {
        ProofGate gate = new ProofGate(5);
        int time = 0;
        for (int n = 1; n <= 100; n++) {
            time += n;
            Due.is("pass " + n, gate.pass(n), time);
        }
    }

    @Sentence(of = "Promise 6", words = "Time goes on by n (1 .. 100)")
    static void passesAsFarAsItCan() {
        ProofGate gate = new ProofGate(5);
        giveFor(gate, 50800, 50800, 1, VOICE, 2);
        for (int i = 1; i <= 508; i++) {
            Due.is("pass 100", gate.pass(100), 100 * i);
        }
        Due.is("the 512th call", gate.valid(1), true);
    }

    @Sentence(of = "Promise 6", words = "-1 when n is not so.")
    static void passesNot() {
        ProofGate gate = new ProofGate(5);
        giveFor(gate, 0, 0, 1, VOICE, 2);
        for (int n : new int[] {MIN, -100, -1, 0, 101, MAX}) {
            Due.is("pass " + n, gate.pass(n), -1);
            Due.is("the time is 0 yet", gate.valid(1), true);
        }
        Due.is("pass 1", gate.pass(1), 1);
    }

    @Sentence(of = "Promise 7", words = "A step is put behind the draft, a proof: its number")
    static void stepAnswersNumber() {
        ProofGate gate = new ProofGate(5);
        Due.is("anything is a step", gate.step(MIN, MAX, -1), 0);
        for (int k = 1; k < 40; k++) {
            Due.is("step", gate.step(k, 2 * k, 3 * k), k);
        }
        Due.is("the first stays the first", gate.stepAt(0, 0), MIN);
        Due.is("the last is the last", gate.stepAt(39, 2), 117);
    }

    @Sentence(of = "Promise 7", words = "A step is put behind the draft, a proof")
    static void stepBehindProof() {
        ProofGate gate = withGrant();
        gate.prove(5, CREATE, 0);
        Due.is("step", gate.step(7, 8, 9), 1);
        Due.is("draft", draft(gate), "1:1,0 7:8,9");
    }

    @Sentence(of = "Promise 7", words = "-1 when there are 40.")
    static void stepWhenFull() {
        ProofGate gate = new ProofGate(5);
        for (int k = 0; k < 40; k++) {
            gate.step(1, k, 0);
        }
        Due.is("the 41st", gate.step(2, 2, 2), -1);
        Due.is("the 42nd", gate.step(2, 2, 2), -1);
        Due.is("steps", gate.steps(), 40);
        Due.is("no step 40", gate.stepAt(40, 0), -1);
        Due.is("the 40th stays", gate.stepAt(39, 0) + 10 * gate.stepAt(39, 1), 391);
        gate.clear();
        Due.is("there is room again", gate.step(1, 1, 1), 0);
        ProofGate proved = withProofOf(40);
        proved.prove(5, CREATE, 0);
        Due.is("behind the prover's 40", proved.step(1, 1, 0), -1);
    }

    @Sentence(of = "Promise 8", words = "The draft is empty: how many steps it had.")
    static void clears() {
        for (int length = 0; length <= 40; length++) {
            ProofGate gate = new ProofGate(5);
            for (int k = 0; k < length; k++) {
                gate.step(1, 1, 1);
            }
            Due.is("clear", gate.clear(), length);
            Due.is("steps", gate.steps(), 0);
            Due.is("no step", gate.stepAt(0, 0), -1);
            Due.is("clear nothing", gate.clear(), 0);
            Due.is("the first again", gate.step(1, 1, 1), 0);
        }
    }

    @Sentence(of = "Promise 9", words = "How many steps the draft has.")
    static void countsSteps() {
        ProofGate gate = withGrant();
        for (int k = 0; k < 40; k++) {
            Due.is("steps", gate.steps(), k);
            gate.step(1, 1, 1);
        }
        Due.is("40", gate.steps(), 40);
        gate.step(1, 1, 1);
        Due.is("40 at most", gate.steps(), 40);
        gate.prove(5, CREATE, 0);
        Due.is("those of the proof", gate.steps(), 1);
    }

    @Sentence(of = "Promise 10", words = "Of step k of the draft: its rule (w = 0), x (1) or y (2)")
    static void partsOfSteps() {
        ProofGate gate = new ProofGate(5);
        int[][] parts = {{MIN, MAX, -1}, {7, 8, 9}, {-1, -1, -1}, {0, MIN, MAX}};
        for (int[] part : parts) {
            gate.step(part[0], part[1], part[2]);
        }
        for (int k = 0; k < parts.length; k++) {
            for (int w = 0; w <= 2; w++) {
                Due.is("step " + k + ", part " + w, gate.stepAt(k, w), parts[k][w]);
            }
        }
    }

    @Sentence(of = "Promise 10", words = "-1 when there is none")
    static void noSuchStep() {
        ProofGate gate = withGrant();
        Due.is("of an empty draft", gate.stepAt(0, 0), -1);
        steps(gate, 1, 2, 3, 4, 5, 6);
        for (int k : new int[] {MIN, -1, 2, 39, 40, MAX}) {
            for (int w = 0; w <= 2; w++) {
                Due.is("no step " + k, gate.stepAt(k, w), -1);
            }
        }
        gate.prove(5, CREATE, 0);
        Due.is("one that was there before the proof", gate.stepAt(1, 0), -1);
        gate.clear();
        Due.is("one that was there before", gate.stepAt(0, 0), -1);
        for (int k = 0; k < 40; k++) {
            gate.step(1, 1, 1);
        }
        Due.is("the last of 40", gate.stepAt(39, 0), 1);
        Due.is("behind 40", gate.stepAt(40, 0), -1);
    }

    @Sentence(of = "Promise 10", words = "or w is not 0 .. 2.")
    static void noSuchPart() {
        ProofGate gate = new ProofGate(5);
        gate.step(7, 8, 9);
        for (int w : new int[] {MIN, -1, 3, MAX}) {
            Due.is("no part " + w, gate.stepAt(0, w), -1);
            Due.is("of no step", gate.stepAt(1, w), -1);
        }
    }

    @Sentence(of = "Promise 11", words = "The prover's proof of the goal of p for right r with object o becomes the "
            + "draft: how many steps it has.")
    static void proofBecomesDraft() {
        ProofGate gate = withReadable();
        give(gate, 2, VOICE, 3);
        give(gate, 3, GRANT, 4, READ, 1);
        for (int k = 0; k < 40; k++) {
            gate.step(9, 9, 9);
        }
        Due.is("a proof of three steps", gate.prove(4, READ, 1), 3);
        Due.is("in place of 40", draft(gate), "1:3,0 1:4,0 2:0,1");
        Due.is("a proof of one step", gate.prove(2, READ, 1), 1);
        Due.is("in place of three", draft(gate), "1:2,0");
        Due.is("a proof of three again", gate.prove(4, READ, 1), 3);
        Due.is("in place of one", draft(gate), "1:3,0 1:4,0 2:0,1");
    }

    /** The answer of prove is -1, and the draft stays. */
    private static void provesNoGoal(ProofGate gate, int p, int r, int o) {
        steps(gate, 1, 2, 0);
        Due.is("prove " + p + " " + r + " " + o, gate.prove(p, r, o), -1);
        Due.is("the draft stays", draft(gate), "1:2,0");
    }

    @Sentence(of = "Promise 11", words = "-1 when there is no such principal")
    static void proveForNoPrincipal() {
        ProofGate gate = withReadable();
        for (int p : NOT_0_TO_5) {
            provesNoGoal(gate, p, READ, 1);
            provesNoGoal(gate, p, CREATE, 0);
        }
    }

    @Sentence(of = "Promise 11", words = "right or object")
    static void proveOfNoRightOrObject() {
        ProofGate gate = withReadable();
        for (int r : NOT_0_TO_3) {
            provesNoGoal(gate, 2, r, 1);
            provesNoGoal(gate, 2, r, 0);
        }
        for (int o : NOT_0_TO_5) {
            provesNoGoal(gate, 2, READ, o);
            provesNoGoal(gate, 2, CREATE, o);
        }
    }

    @Sentence(of = "Promise 11", words = "or the object is not there (for CREATE: or it is)")
    static void proveOfObjectNotThere() {
        ProofGate gate = withReadable();
        for (int r = READ; r <= OWN; r++) {
            provesNoGoal(gate, 2, r, 0);
        }
        provesNoGoal(gate, 2, CREATE, 1);
        give(gate, 2, GRANT, 2, OWN, 1);
        gate.request(2, OWN, 1, -1, false);
        provesNoGoal(gate, 2, READ, 1);
        Due.is("CREATE, when it is there no more", gate.prove(2, CREATE, 1), 1);
    }

    @Sentence(of = "Promise 11", words = "-2 when the goal is not found")
    static void proveNotFound() {
        ProofGate gate = withReadable();
        steps(gate, 1, 2, 0);
        Due.is("right", gate.prove(2, WRITE, 1), -2);
        Due.is("principal", gate.prove(3, READ, 1), -2);
        Due.is("CREATE", gate.prove(2, CREATE, 0), -2);
        gate.revoke(2, 2);
        Due.is("revoked", gate.prove(2, READ, 1), -2);
        Due.is("the draft stays", draft(gate), "1:2,0");
    }

    @Sentence(of = "Promise 11", words = "-3 when the proof has more than 40 steps")
    static void proveTooLong() {
        for (int length = 38; length <= 44; length++) {
            ProofGate gate = withProofOf(length);
            Due.is("a proof of " + length, gate.prove(5, CREATE, 0), length <= 40 ? length : -3);
            Due.is("steps", gate.steps(), length <= 40 ? length : 0);
            Due.is("check", gate.check(5, CREATE, 0), length <= 40);
        }
    }

    @Sentence(of = "Promise 11", words = "the draft stays then.")
    static void draftStays() {
        ProofGate gate = withProofOf(41);
        steps(gate, 9, 8, 7, 6, 5, 4);
        Due.is("no such goal", gate.prove(5, READ, 0), -1);
        Due.is("draft", draft(gate), "9:8,7 6:5,4");
        Due.is("not found", gate.prove(4, CREATE, 0), -2);
        Due.is("draft", draft(gate), "9:8,7 6:5,4");
        Due.is("too long", gate.prove(5, CREATE, 0), -3);
        Due.is("draft", draft(gate), "9:8,7 6:5,4");
    }

    @Sentence(of = "Promise 11", words = "The prover's proof of the goal")
    static void proofByOneWhoSpeaks() {
        for (int b = 1; b < 6; b++) {
            for (int x = 0; x < 6; x++) {
                ProofGate gate = withObject(0, 1, 77);
                give(gate, 0, VOICE, b % 5 + 1);
                give(gate, b, GRANT, x, READ, 1);
                Due.is("another one speaks for the owner", gate.prove(x, READ, 1), -2);
                give(gate, 0, VOICE, b);
                Due.is("this one does", gate.prove(x, READ, 1), 3);
            }
        }
    }

    @Sentence(of = "Promise 12", words = "Whether the draft proves the goal of p for r with o")
    static void checks() {
        ProofGate gate = withReadable();
        Due.is("an empty draft", gate.check(2, READ, 1), false);
        steps(gate, 1, 2, 0);
        Due.is("a proof", gate.check(2, READ, 1), true);
        Due.is("of another goal", gate.check(2, WRITE, 1), false);
        Due.is("the draft stays", draft(gate), "1:2,0");
        gate.pass(99);
        Due.is("at its last time", gate.check(2, READ, 1), true);
        gate.pass(1);
        Due.is("after it", gate.check(2, READ, 1), false);
    }

    @Sentence(of = "Promise 12", words = "false, too, when prove would answer -1.")
    static void checksNoGoal() {
        ProofGate gate = withReadable();
        give(gate, 2, GRANT, 2, OWN, 1);
        steps(gate, 1, 2, 0);
        for (int bad : NOT_0_TO_5) {
            Due.is("no principal", gate.check(bad, READ, 1), false);
            Due.is("no object", gate.check(2, READ, bad), false);
            Due.is("no object to create", gate.check(2, CREATE, bad), false);
        }
        for (int bad : NOT_0_TO_3) {
            Due.is("no right", gate.check(2, bad, 1), false);
        }
        Due.is("not there", gate.check(2, READ, 0), false);
        gate.request(2, OWN, 1, -1, false);
        Due.is("there no more", gate.check(2, READ, 1), false);
        steps(gate, 1, 1, 0);
        Due.is("CREATE of what is not there", gate.check(2, CREATE, 1), true);
        gate.request(2, CREATE, 1, 0, false);
        Due.is("CREATE of what is there", gate.check(2, CREATE, 1), false);
        Due.is("the draft stays", draft(gate), "1:1,0");
    }

    @Sentence(of = "Promise 13", words = "right 0: its value")
    static void reads() {
        ProofGate gate = withReadable();
        Due.is("value", gate.request(2, READ, 1, 5, false), 77);
        Due.is("it stays", gate.request(2, READ, 1, MIN, false), 77);
        Due.is("so does the owner", gate.owner(1), 2);
    }

    @Sentence(of = "Promise 13", words = "1: its value becomes v, the old one")
    static void writes() {
        ProofGate gate = withReadable();
        give(gate, 2, GRANT, 2, WRITE, 1);
        int old = 77;
        for (int v : new int[] {MIN, MAX, -1, 0, 0, 6}) {
            Due.is("the old value", gate.request(2, WRITE, 1, v, false), old);
            Due.is("the new value", gate.request(2, READ, 1, 3, false), v);
            old = v;
        }
        Due.is("the owner stays", gate.owner(1), 2);
    }

    @Sentence(of = "Promise 13", words = "2: when v is 0 .. 5 its owner becomes v")
    static void handsOver() {
        for (int v = 0; v <= 5; v++) {
            ProofGate gate = withObject(2, 1, 77);
            give(gate, 2, GRANT, 3, OWN, 1);
            give(gate, v, GRANT, 4, READ, 1);
            Due.is("the old owner", gate.request(3, OWN, 1, v, false), 2);
            Due.is("the new owner", gate.owner(1), v);
            Due.is("the value stays", gate.request(4, READ, 1, 9, false), 77);
        }
    }

    @Sentence(of = "Promise 13", words = "otherwise it is there no more; the old owner")
    static void takesAway() {
        for (int v : NOT_0_TO_5) {
            ProofGate gate = withReadable();
            give(gate, 2, GRANT, 3, OWN, 1);
            Due.is("the old owner", gate.request(3, OWN, 1, v, false), 2);
            Due.is("no owner", gate.owner(1), -1);
            Due.throwing("no value", NSE, () -> gate.request(2, READ, 1, 0, false));
            Due.is("it can be made anew", gate.request(2, CREATE, 1, 8, false), 0);
            Due.is("with another value", gate.request(2, READ, 1, 0, false), 8);
        }
    }

    @Sentence(of = "Promise 13", words = "3: it is there with owner p and value v; 0.")
    static void creates() {
        for (int v : new int[] {MIN, -1, 0, 6, MAX}) {
            for (int p = 0; p <= 5; p++) {
                ProofGate gate = new ProofGate(5);
                give(gate, ROOT, GRANT, p, CREATE, 5);
                give(gate, p, GRANT, p, READ, 5);
                Due.is("create", gate.request(p, CREATE, 5, v, false), 0);
                Due.is("owner", gate.owner(5), p);
                Due.is("value", gate.request(p, READ, 5, 0, false), v);
            }
        }
    }

    @Sentence(of = "Promise 13", words = "It is GRANTED when, with given, the draft proves the goal")
    static void grantedByDraft() {
        ProofGate gate = withReadable();
        steps(gate, 1, 1, 0, 1, 2, 0);
        Due.is("a draft that the prover would not write", gate.request(2, READ, 1, 0, true), 77);
        steps(gate, 1, 1, 0);
        Due.throwing("a draft that proves another fact", UOE, () -> gate.request(2, READ, 1, 0, true));
        Due.throwing("an empty draft, though the prover would find it", UOE, () -> gate.request(2, READ, 1, 0, true));
        for (int length : new int[] {39, 40}) {
            for (int k = 0; k < length; k++) {
                gate.step(1, 2, 0);
            }
            Due.is("a draft of " + length, gate.request(2, READ, 1, 0, true), 77);
        }
    }

    @Sentence(of = "Promise 13", words = "and without, the prover finds it and its proof has at most 40 steps.")
    static void grantedByProver() {
        for (int length = 38; length <= 44; length++) {
            ProofGate gate = withProofOf(length);
            boolean fits = length <= 40;
            Due.is("a proof of " + length, Due.outcome(() -> gate.request(5, CREATE, 0, 1, false)),
                    fits ? "0" : "throws.UnsupportedOperationException");
            Due.is("owner", gate.owner(0), fits ? 5 : -1);
            Due.is("grants", gate.grants(), fits ? 1 : 0);
            Due.is("chain", gate.chain(), fits ? link(0, 5, CREATE, 0, length) : 0);
        }
    }

    @Sentence(of = "Promise 13", words = "The draft is empty then, with given, whether it was granted or not.")
    static void draftIsSpent() {
        ProofGate gate = withReadable();
        steps(gate, 1, 2, 0);
        gate.request(2, READ, 1, 0, true);
        Due.is("granted", gate.steps(), 0);
        steps(gate, 1, 2, 0);
        Due.throwing("not granted", UOE, () -> gate.request(2, WRITE, 1, 0, true));
        Due.is("not granted", gate.steps(), 0);
    }

    @Sentence(of = "Promise 13", words = "The draft is empty then, with given")
    static void draftStaysWithoutGiven() {
        ProofGate gate = withReadable();
        steps(gate, 1, 1, 0, 9, 9, 9);
        gate.request(2, READ, 1, 0, false);
        Due.is("granted", draft(gate), "1:1,0 9:9,9");
        Due.throwing("not granted", UOE, () -> gate.request(2, WRITE, 1, 0, false));
        Due.is("not granted", draft(gate), "1:1,0 9:9,9");
    }

    @Sentence(of = "Promise 13", words = "A grant is recorded, and is in the audit log.")
    static void grantIsLogged() {
        for (int r = READ; r <= CREATE; r++) {
            for (boolean given : GIVEN_OR_NOT) {
                ProofGate gate = withObject(2, 1, 77);
                int o = r == CREATE ? 0 : 1;
                int number = give(gate, r == CREATE ? ROOT : 2, GRANT, 3, r, o);
                int chain = gate.chain();
                steps(gate, 1, 1, 0, 1, number, 0);
                gate.fuse(1);
                gate.request(3, r, o, 4, given);
                Due.is("grants", gate.grants(), 2);
                Due.is("chain", gate.chain(), link(chain, 3, r, o, given ? 2 : 1));
                Due.throwing("the record was written", ISE, () -> give(gate, 1, VOICE, 2));
                Due.is("and is there", gate.grants(), 2);
            }
        }
    }

    @Sentence(of = "Promise 13", words = "IllegalArgumentException when there is no such principal, right or object")
    static void requestOfNothing() {
        ProofGate gate = withReadable();
        for (boolean given : GIVEN_OR_NOT) {
            steps(gate, 1, 2, 0);
            for (int bad : NOT_0_TO_5) {
                Due.throwing("no principal", IAE, () -> gate.request(bad, READ, 1, 0, given));
                Due.throwing("no principal, not there", IAE, () -> gate.request(bad, READ, 0, 0, given));
                Due.throwing("no principal, there", IAE, () -> gate.request(bad, CREATE, 1, 0, given));
                Due.throwing("no object", IAE, () -> gate.request(2, READ, bad, 0, given));
                Due.throwing("no object to create", IAE, () -> gate.request(2, CREATE, bad, 0, given));
            }
            for (int bad : NOT_0_TO_3) {
                Due.throwing("no right", IAE, () -> gate.request(2, bad, 1, 0, given));
                Due.throwing("no right, not there", IAE, () -> gate.request(2, bad, 0, 0, given));
            }
        }
        Due.is("no grants", gate.grants(), 1);
    }

    @Sentence(of = "Promise 13", words = "NoSuchElementException when the object is not there (with CREATE: when it "
            + "is)")
    static void requestOfObjectNotThere() {
        ProofGate gate = withReadable();
        for (boolean given : GIVEN_OR_NOT) {
            for (int r = READ; r <= OWN; r++) {
                int right = r;
                Due.throwing("not there", NSE, () -> gate.request(2, right, 0, 0, given));
            }
            steps(gate, 1, 1, 0);
            Due.throwing("there, though it could be created", NSE, () -> gate.request(2, CREATE, 1, 0, given));
            Due.throwing("there, and could not", NSE, () -> gate.request(4, CREATE, 1, 0, given));
        }
        Due.is("it stays as it was", gate.request(2, READ, 1, 0, false), 77);
        Due.is("one grant more", gate.grants(), 2);
    }

    @Sentence(of = "Promise 13", words = "UnsupportedOperationException when it is not granted")
    static void requestNotGranted() {
        ProofGate gate = withReadable();
        int chain = gate.chain();
        gate.fuse(0);
        for (boolean given : GIVEN_OR_NOT) {
            Due.throwing("WRITE", UOE, () -> gate.request(2, WRITE, 1, 5, given));
            Due.throwing("OWN", UOE, () -> gate.request(2, OWN, 1, 5, given));
            Due.throwing("no more", UOE, () -> gate.request(2, OWN, 1, -1, given));
            Due.throwing("CREATE", UOE, () -> gate.request(2, CREATE, 0, 5, given));
            Due.throwing("another's READ", UOE, () -> gate.request(3, READ, 1, 5, given));
        }
        Due.is("owner", gate.owner(1), 2);
        Due.is("not created", gate.owner(0), -1);
        Due.is("grants", gate.grants(), 1);
        Due.is("chain", gate.chain(), chain);
        Due.throwing("the fuse is lit yet", ISE, () -> gate.request(2, READ, 1, 0, false));
        Due.is("value", gate.request(2, READ, 1, 0, false), 77);
    }

    @Sentence(of = "Promise 13", words = "IllegalStateException when the machine crashes.")
    static void requestCrashes() {
        for (boolean given : GIVEN_OR_NOT) {
            ProofGate gate = withReadable();
            steps(gate, 1, 2, 0);
            gate.fuse(0);
            Due.throwing("crash", ISE, () -> gate.request(2, READ, 1, 0, given));
            Due.is("the draft is empty", gate.steps(), 0);
            Due.is("no grant", gate.grants(), 1);
            Due.is("after it", gate.request(2, READ, 1, 0, false), 77);
        }
    }

    @Sentence(of = "Promise 13", words = "(The draft stays with the first two of these.)")
    static void draftStaysWithRefusals() {
        ProofGate gate = withReadable();
        steps(gate, 1, 1, 0, 1, 2, 0);
        for (boolean given : GIVEN_OR_NOT) {
            Due.throwing("no principal", IAE, () -> gate.request(6, READ, 1, 0, given));
            Due.is("draft", draft(gate), "1:1,0 1:2,0");
            Due.throwing("no right", IAE, () -> gate.request(2, 4, 1, 0, given));
            Due.is("draft", draft(gate), "1:1,0 1:2,0");
            Due.throwing("no object", IAE, () -> gate.request(2, READ, 6, 0, given));
            Due.is("draft", draft(gate), "1:1,0 1:2,0");
            Due.throwing("not there", NSE, () -> gate.request(2, READ, 0, 0, given));
            Due.is("draft", draft(gate), "1:1,0 1:2,0");
            Due.throwing("there", NSE, () -> gate.request(2, CREATE, 1, 0, given));
            Due.is("draft", draft(gate), "1:1,0 1:2,0");
        }
    }

    @Sentence(of = "Promise 14", words = "Lights the fuse with n (0 .. 50)")
    static void lights() {
        for (int n = 0; n <= 50; n++) {
            ProofGate gate = withReadable();
            Due.is("fuse " + n, gate.fuse(n), true);
            for (int i = 0; i < n; i++) {
                Due.is("record", gate.request(2, READ, 1, 0, false), 77);
            }
            Due.throwing("the next record", ISE, () -> gate.request(2, READ, 1, 0, false));
        }
    }

    @Sentence(of = "Promise 14", words = "in place of one that is lit: true")
    static void lightsInPlace() {
        int[][] pairs = {{0, 50}, {50, 0}, {0, 0}, {2, 1}, {1, 2}, {50, 50}};
        for (int[] pair : pairs) {
            ProofGate gate = withReadable();
            gate.fuse(pair[0]);
            Due.is("fuse " + pair[1] + " in place of " + pair[0], gate.fuse(pair[1]), true);
            for (int i = 0; i < pair[1]; i++) {
                Due.is("record", gate.request(2, READ, 1, 0, false), 77);
            }
            Due.throwing("the next record", ISE, () -> gate.request(2, READ, 1, 0, false));
            Due.is("then none is lit", gate.request(2, READ, 1, 0, false), 77);
        }
    }

    @Sentence(of = "Promise 14", words = "in place of one that is lit")
    static void lightsInPlaceOfBurnt() {
        ProofGate gate = withReadable();
        gate.fuse(2);
        gate.request(2, READ, 1, 0, false);
        gate.fuse(2);
        Due.is("first of two", gate.request(2, READ, 1, 0, false), 77);
        Due.is("second of two", gate.request(2, READ, 1, 0, false), 77);
        Due.throwing("the third", ISE, () -> gate.request(2, READ, 1, 0, false));
    }

    @Sentence(of = "Promise 14", words = "false when n is not so.")
    static void lightsNot() {
        ProofGate gate = withReadable();
        for (int n : new int[] {MIN, -1, 51, MAX}) {
            Due.is("fuse " + n, gate.fuse(n), false);
            Due.is("none is lit", gate.request(2, READ, 1, 0, false), 77);
        }
        for (int n : new int[] {MIN, -1, 51, MAX}) {
            gate.fuse(1);
            Due.is("fuse " + n, gate.fuse(n), false);
            Due.is("the one that is lit", gate.request(2, READ, 1, 0, false), 77);
            Due.throwing("stays lit", ISE, () -> gate.request(2, READ, 1, 0, false));
        }
    }

    @Sentence(of = "Promise 15", words = "The owner of an object; -1 when there is no such one.")
    static void owners() {
        ProofGate gate = withObject(5, 5, 77);
        give(gate, ROOT, GRANT, 0, CREATE, 0);
        gate.request(0, CREATE, 0, 1, false);
        int[] due = {0, -1, -1, -1, -1, 5};
        for (int o = 0; o <= 5; o++) {
            Due.is("owner of " + o, gate.owner(o), due[o]);
        }
        for (int o : NOT_0_TO_5) {
            Due.is("no object " + o, gate.owner(o), -1);
        }
    }

    @Sentence(of = "Promise 16", words = "How many credentials there are.")
    static void countsCredentials() {
        ProofGate gate = new ProofGate(5);
        for (int count = 0; count < 24; count++) {
            Due.is("credentials", gate.credentials(), count);
            giveFor(gate, count, count - count % 2, 1, VOICE, 2);
        }
        Due.is("24", gate.credentials(), 24);
        gate.revoke(1, 1);
        gate.pass(100);
        Due.is("revoked ones and those of the past count", gate.credentials(), 24);
        Due.throwing("the 25th", ISE, () -> give(gate, 1, VOICE, 2));
        Due.is("24 at most", gate.credentials(), 24);
    }

    @Sentence(of = "Promise 17", words = "Whether a credential is valid now")
    static void validNow() {
        ProofGate gate = new ProofGate(5);
        giveFor(gate, 2, 3, 1, VOICE, 2);
        boolean[] due = {false, false, true, true, false, false};
        for (int time = 0; time < due.length; time++) {
            Due.is("valid at " + time, gate.valid(1), due[time]);
            gate.pass(1);
        }
        giveFor(gate, MIN, MAX, 1, VOICE, 2);
        Due.is("before it is revoked", gate.valid(2), true);
        gate.revoke(1, 2);
        Due.is("when it is revoked", gate.valid(2), false);
    }

    @Sentence(of = "Promise 17", words = "false when there is none.")
    static void validOfNone() {
        ProofGate gate = new ProofGate(5);
        Due.is("of none", gate.valid(1), false);
        giveMany(gate, 2);
        for (int number : new int[] {MIN, -1, 0, 3, 24, 25, MAX}) {
            Due.is("no credential " + number, gate.valid(number), false);
        }
        giveMany(gate, 22);
        Due.is("the 24th", gate.valid(24), true);
        Due.is("no 25th", gate.valid(25), false);
    }

    @Sentence(of = "Promise 18", words = "How many grants the audit log has.")
    static void countsGrants() {
        ProofGate gate = new ProofGate(5);
        Due.is("at first", gate.grants(), 0);
        give(gate, ROOT, GRANT, 2, CREATE, 1);
        Due.is("a credential is no grant", gate.grants(), 0);
        gate.request(2, CREATE, 1, 1, false);
        Due.is("the first", gate.grants(), 1);
        Due.throwing("not granted", UOE, () -> gate.request(2, READ, 1, 1, false));
        give(gate, 2, GRANT, 2, READ, 1);
        gate.revoke(ROOT, 1);
        gate.prove(2, READ, 1);
        gate.check(2, READ, 1);
        Due.is("nothing else counts", gate.grants(), 1);
        for (int i = 2; i <= 60; i++) {
            gate.request(2, READ, 1, 1, false);
            Due.is("grants", gate.grants(), i);
        }
        gate.fuse(0);
        Due.throwing("crash", ISE, () -> gate.request(2, READ, 1, 1, false));
        Due.is("a crash is no grant", gate.grants(), 60);
    }

    @Sentence(of = "Promise 19", words = "The chain of the audit log.")
    static void chains() {
        ProofGate gate = new ProofGate(5);
        Due.is("at first", gate.chain(), 0);
        give(gate, ROOT, GRANT, 2, CREATE, 1);
        Due.is("a credential is not in it", gate.chain(), 0);
        gate.request(2, CREATE, 1, 77, false);
        Due.is("the first grant", gate.chain(), 2698);
        Due.throwing("not granted", UOE, () -> gate.request(2, READ, 1, 1, false));
        gate.revoke(ROOT, 1);
        give(gate, 2, GRANT, 2, READ, 1);
        gate.fuse(0);
        Due.throwing("crash", ISE, () -> gate.request(2, READ, 1, 1, false));
        Due.is("nothing else is in it", gate.chain(), 2698);
        gate.request(2, READ, 1, 1, false);
        Due.is("the second grant", gate.chain(), link(2698, 2, READ, 1, 1));
    }
}

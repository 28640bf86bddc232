import java.util.NoSuchElementException;

/** Each promise of the document: ordinary inputs, the edges that it names, wrong inputs. */
public final class PromiseTests {
    private static final int GRANT = 0;
    private static final int VOICE = 1;
    private static final int TRUST = 2;
    private static final int IMPLY = 3;
    private static final int READ = 0;
    private static final int WRITE = 1;
    private static final int OWN = 2;
    private static final int CREATE = 3;
    private static final int MIN = Integer.MIN_VALUE;
    private static final int MAX = Integer.MAX_VALUE;
    private static final Class<IllegalArgumentException> IAE = IllegalArgumentException.class;
    private static final Class<NoSuchElementException> NSE = NoSuchElementException.class;
    private static final Class<UnsupportedOperationException> UOE = UnsupportedOperationException.class;
    private static final Class<IllegalStateException> ISE = IllegalStateException.class;

    private PromiseTests() {
    }

    /** Submits with the right seal, for the times 0 to 99. */
    private static int give(ProofGate gate, int issuer, int kind, int... numbers) {
        return giveFor(gate, 0, 99, issuer, kind, numbers);
    }

    private static int giveFor(ProofGate gate, int first, int last, int issuer, int kind, int... numbers) {
        int[] n = java.util.Arrays.copyOf(numbers, 4);
        gate.set(n[0], n[1], n[2], n[3]);
        return gate.submit(issuer, kind, first, last, gate.seal(issuer, kind, n[0], n[1], n[2], n[3], first, last));
    }

    /** A gate with object o there, made by p with value v, and one credential and one grant so far. */
    private static ProofGate gateWithObject(int p, int o, int v) {
        ProofGate gate = new ProofGate(5);
        give(gate, 0, GRANT, p, CREATE, o);
        gate.request(p, CREATE, o, v, false);
        return gate;
    }

    private static String draft(ProofGate gate) {
        StringBuilder text = new StringBuilder();
        for (int k = 0; k < gate.steps(); k++) {
            text.append(k == 0 ? "" : " ").append(gate.stepAt(k, 0)).append(':')
                    .append(gate.stepAt(k, 1)).append(',').append(gate.stepAt(k, 2));
        }
        return text.toString();
    }

    private static void steps(ProofGate gate, int... rulesXsYs) {
        gate.clear();
        for (int i = 0; i < rulesXsYs.length; i += 3) {
            gate.step(rulesXsYs[i], rulesXsYs[i + 1], rulesXsYs[i + 2]);
        }
    }

    private static void newObject() {
        ProofGate gate = new ProofGate(MIN);
        for (int o = -1; o <= 6; o++) {
            Due.is("new owner", gate.owner(o), -1);
        }
        Due.is("new credentials", gate.credentials(), 0);
        Due.is("new valid", gate.valid(1), false);
        Due.is("new steps", gate.steps(), 0);
        Due.is("new grants", gate.grants(), 0);
        Due.is("new chain", gate.chain(), 0);
        Due.is("new time", gate.pass(1), 1);
        for (int i = 1; i <= 24; i++) {
            Due.is("no fuse is lit", give(gate, 0, VOICE, 0), i);
        }
    }

    private static void newObjectSetNumbers() {
        ProofGate gate = new ProofGate(5);
        int seal = gate.seal(0, GRANT, 0, 0, 0, 0, 0, 9);
        Due.is("the four numbers are 0 at first", gate.submit(0, GRANT, 0, 9, seal), 1);
    }

    private static void seal() {
        ProofGate gate = new ProofGate(5);
        Due.is("seal of GRANT", gate.seal(0, GRANT, 2, 3, 1, 0, 0, 9), 1316120149);
        Due.is("GRANT has no fourth", gate.seal(0, GRANT, 2, 3, 1, 77, 0, 9), 1316120149);
        Due.is("seal of another issuer", gate.seal(2, GRANT, 4, 0, 1, 0, 1, 3), -1964748590);
        Due.is("VOICE has one", gate.seal(1, VOICE, 2, 9, 9, 9, 0, 0), 1234113075);
        Due.is("VOICE", gate.seal(1, VOICE, 2, 0, 0, 0, 0, 0), 1234113075);
        Due.is("TRUST has four", gate.seal(0, TRUST, 1, 1, 0, 2, 0, 99), 2090122639);
        Due.is("IMPLY has two", gate.seal(0, IMPLY, 1, 3, 8, 8, 0, 99), 249473564);
        int[][] odd = {{0, 4, 1, 2, 3, 4, 0, 9}, {0, -1, 1, 2, 3, 4, 0, 9}, {9, 0, 7, 8, 9, 0, -3, -4},
            {MIN, MAX, MIN, MAX, MIN, MAX, MIN, MAX}, {-1, 3, -1, -1, 0, 0, -1, -1}};
        for (int[] n : odd) {
            for (int secret : new int[] {0, 5, -1, MIN, MAX}) {
                Due.is("seal of " + java.util.Arrays.toString(n),
                        new ProofGate(secret).seal(n[0], n[1], n[2], n[3], n[4], n[5], n[6], n[7]),
                        Model.seal(secret, n));
            }
        }
        for (int i = 2; i <= 5; i++) {
            int[] n = {0, 4, 0, 0, 0, 0, 0, 0};
            int[] m = n.clone();
            m[i] = 1;
            Due.is("another kind has all four", Model.seal(5, n) != gate.seal(m[0], m[1], m[2], m[3], m[4], m[5], 0, 0),
                    true);
        }
        Due.is("to ask changes nothing", gate.credentials(), 0);
    }

    private static void submit() {
        ProofGate gate = new ProofGate(5);
        gate.set(2, 3, 1, -7);
        Due.is("submit", gate.submit(0, GRANT, 0, 9, 1316120149), 1);
        Due.is("the same once more", gate.submit(0, GRANT, 0, 9, 1316120149), 2);
        Due.is("credentials", gate.credentials(), 2);
        Due.throwing("wrong seal", UOE, () -> gate.submit(0, GRANT, 0, 9, 1316120148));
        Due.throwing("seal for another time", UOE, () -> gate.submit(0, GRANT, 0, 8, 1316120149));
        Due.throwing("seal of another issuer", UOE, () -> gate.submit(1, GRANT, 0, 9, 1316120149));
        for (int issuer : new int[] {-1, 6, MIN, MAX}) {
            Due.throwing("issuer " + issuer, IAE,
                    () -> gate.submit(issuer, GRANT, 0, 9, gate.seal(issuer, GRANT, 2, 3, 1, 0, 0, 9)));
        }
        for (int kind : new int[] {-1, 4, MIN, MAX}) {
            Due.throwing("kind " + kind, IAE,
                    () -> gate.submit(0, kind, 0, 9, gate.seal(0, kind, 2, 3, 1, -7, 0, 9)));
        }
        Due.is("nothing else was taken", gate.credentials(), 2);
        Due.is("first may be behind last", giveFor(gate, 9, 0, 0, VOICE, 1), 3);
        Due.is("any times", giveFor(gate, MIN, MAX, 0, VOICE, 1), 4);
        Due.is("valid over all times", gate.valid(4), true);
        Due.is("never valid", gate.valid(3), false);
    }

    private static void submitRanges() {
        int[][] limits = {{6, 4, 6, 0}, {6, 0, 0, 0}, {6, 4, 6, 4}, {4, 4, 0, 0}};
        for (int kind = 0; kind < 4; kind++) {
            for (int i = 0; i < 4; i++) {
                for (int number : new int[] {MIN, -1, 0, limits[kind][i] - 1, limits[kind][i], 6, MAX}) {
                    boolean fits = limits[kind][i] == 0 || number >= 0 && number < limits[kind][i];
                    int[] n = new int[4];
                    n[i] = number;
                    ProofGate gate = new ProofGate(5);
                    int k = kind;
                    Due.is("kind " + kind + ", number " + i + " is " + number,
                            Due.outcome(() -> give(gate, 5, k, n)), fits ? "1" : "throws.IllegalArgumentException");
                    Due.throwing("and its seal is wrong", fits ? UOE : IAE, () -> gate.submit(5, k, 0, 99, 1));
                }
            }
        }
    }

    private static void submitWhenFull() {
        ProofGate gate = new ProofGate(5);
        for (int i = 1; i <= 24; i++) {
            Due.is("submit " + i, give(gate, 1, VOICE, 2), i);
        }
        gate.step(1, 1, 1);
        gate.fuse(0);
        Due.throwing("the 25th", ISE, () -> give(gate, 1, VOICE, 2));
        Due.is("that was no crash", gate.steps(), 1);
        Due.throwing("a wrong seal comes before", UOE, () -> gate.submit(1, VOICE, 0, 99, 1));
        Due.throwing("a wrong kind comes before", IAE, () -> gate.submit(1, 4, 0, 99, 1));
    }

    private static void submitFullKeepsFuse() {
        ProofGate gate = new ProofGate(5);
        for (int i = 1; i <= 24; i++) {
            give(gate, 1, VOICE, 2);
        }
        gate.fuse(0);
        Due.throwing("the 25th", ISE, () -> give(gate, 1, VOICE, 2));
        Due.throwing("the fuse is still lit", ISE, () -> gate.revoke(1, 3) ? 1 : 0);
        Due.is("and then it is out", gate.revoke(1, 3), true);
        Due.throwing("a revoked one makes no room", ISE, () -> give(gate, 1, VOICE, 2));
    }

    private static void submitCrash() {
        ProofGate gate = new ProofGate(5);
        gate.step(1, 1, 1);
        gate.set(2, 3, 1, 0);
        gate.fuse(0);
        Due.throwing("wrong seal writes no record", UOE, () -> gate.submit(0, GRANT, 0, 9, 1));
        Due.throwing("wrong kind writes no record", IAE, () -> gate.submit(0, 5, 0, 9, 1));
        Due.is("no crash so far", gate.steps(), 1);
        Due.throwing("crash", ISE, () -> gate.submit(0, GRANT, 0, 9, 1316120149));
        Due.is("it was not taken", gate.credentials(), 0);
        Due.is("the draft is empty", gate.steps(), 0);
        Due.is("the set numbers are there, the fuse is out", gate.submit(0, GRANT, 0, 9, 1316120149), 1);
    }

    private static void set() {
        ProofGate gate = new ProofGate(5);
        gate.set(5, 5, 5, 5);
        gate.set(1, 1, 0, 2);
        Due.is("the last numbers count", gate.submit(0, TRUST, 0, 99, 2090122639), 1);
        Due.is("submit leaves them", gate.submit(0, TRUST, 0, 99, 2090122639), 2);
        gate.set(MIN, MAX, -1, 99);
        Due.throwing("any may be set, not all fit", IAE,
                () -> gate.submit(0, TRUST, 0, 9, gate.seal(0, TRUST, MIN, MAX, -1, 99, 0, 9)));
    }

    private static void revoke() {
        ProofGate gate = new ProofGate(5);
        give(gate, 3, VOICE, 1);
        giveFor(gate, 5, 6, 4, VOICE, 1);
        for (int number : new int[] {0, 3, -1, MIN, MAX}) {
            Due.throwing("revoke " + number, NSE, () -> gate.revoke(3, number) ? 1 : 0);
        }
        for (int p : new int[] {0, 4, -1, 6}) {
            Due.throwing("revoke by " + p, UOE, () -> gate.revoke(p, 1) ? 1 : 0);
        }
        Due.is("still valid", gate.valid(1), true);
        Due.is("revoke", gate.revoke(3, 1), true);
        Due.is("no longer valid", gate.valid(1), false);
        Due.is("revoke again", gate.revoke(3, 1), false);
        Due.throwing("another one can't, even now", UOE, () -> gate.revoke(4, 1) ? 1 : 0);
        Due.is("one that is not valid yet", gate.revoke(4, 2), true);
        gate.pass(5);
        Due.is("it never gets valid", gate.valid(2), false);
        Due.is("both are still there", gate.credentials(), 2);
    }

    private static void revokeCrash() {
        ProofGate gate = new ProofGate(5);
        give(gate, 3, VOICE, 1);
        give(gate, 3, VOICE, 2);
        gate.revoke(3, 2);
        gate.step(1, 1, 0);
        gate.fuse(0);
        Due.is("what is revoked writes no record", gate.revoke(3, 2), false);
        Due.throwing("nor does a wrong p", UOE, () -> gate.revoke(1, 1) ? 1 : 0);
        Due.throwing("nor a wrong number", NSE, () -> gate.revoke(3, 9) ? 1 : 0);
        Due.is("no crash so far", gate.steps(), 1);
        Due.throwing("crash", ISE, () -> gate.revoke(3, 1) ? 1 : 0);
        Due.is("not revoked", gate.valid(1), true);
        Due.is("the draft is empty", gate.steps(), 0);
        Due.is("the other stays revoked", gate.valid(2), false);
        Due.is("now it goes", gate.revoke(3, 1), true);
    }

    private static void pass() {
        ProofGate gate = new ProofGate(5);
        for (int n : new int[] {0, -1, 101, MIN, MAX}) {
            Due.is("pass " + n, gate.pass(n), -1);
        }
        Due.is("pass 1", gate.pass(1), 1);
        Due.is("pass 100", gate.pass(100), 101);
        Due.is("pass 0", gate.pass(0), -1);
        Due.is("pass 7", gate.pass(7), 108);
    }

    private static void step() {
        ProofGate gate = new ProofGate(5);
        Due.is("anything is a step", gate.step(MIN, MAX, -1), 0);
        for (int k = 1; k < 40; k++) {
            Due.is("step", gate.step(k, 2 * k, 3 * k), k);
        }
        Due.is("the 41st", gate.step(7, 7, 7), -1);
        Due.is("steps", gate.steps(), 40);
        Due.is("rule", gate.stepAt(0, 0), MIN);
        Due.is("x", gate.stepAt(0, 1), MAX);
        Due.is("y", gate.stepAt(0, 2), -1);
        Due.is("the 40th", gate.stepAt(39, 0) + 1000 * gate.stepAt(39, 1) + 1000000 * gate.stepAt(39, 2), 117078039);
        for (int k : new int[] {-1, 40, MIN, MAX}) {
            Due.is("no step " + k, gate.stepAt(k, 0), -1);
        }
        for (int w : new int[] {-1, 3, MIN, MAX}) {
            Due.is("no part " + w, gate.stepAt(1, w), -1);
        }
        Due.is("clear", gate.clear(), 40);
        Due.is("nothing is left", gate.steps(), 0);
        Due.is("nor a step", gate.stepAt(0, 0), -1);
        Due.is("clear nothing", gate.clear(), 0);
        Due.is("first again", gate.step(1, 1, 1), 0);
        Due.is("one", gate.steps(), 1);
        Due.is("only the new one", gate.stepAt(1, 0), -1);
    }

    private static void proveNames() {
        ProofGate gate = gateWithObject(2, 1, 77);
        give(gate, 2, GRANT, 2, READ, 1);
        gate.step(9, 9, 9);
        for (int bad : new int[] {-1, 6, MIN, MAX}) {
            Due.is("no principal", gate.prove(bad, READ, 1), -1);
            Due.is("no object", gate.prove(2, READ, bad), -1);
            Due.is("no object to create", gate.prove(2, CREATE, bad), -1);
            Due.is("no right", gate.prove(2, bad == 6 ? 4 : bad, 1), -1);
            Due.is("check of no principal", gate.check(bad, READ, 1), false);
            Due.is("check of no object", gate.check(2, CREATE, bad), false);
            Due.is("check of no right", gate.check(2, bad == 6 ? 4 : bad, 1), false);
        }
        Due.is("not there", gate.prove(2, READ, 0), -1);
        Due.is("there already", gate.prove(2, CREATE, 1), -1);
        Due.is("not found", gate.prove(2, WRITE, 1), -2);
        Due.is("creation not found", gate.prove(2, CREATE, 0), -2);
        Due.is("the draft stayed", draft(gate), "9:9,9");
        Due.is("found", gate.prove(2, READ, 1), 1);
        Due.is("the draft is the proof", draft(gate), "1:2,0");
        steps(gate, 1, 1, 0);
        Due.is("what proves CREATE, when the object is there", gate.check(2, CREATE, 1), false);
    }

    private static void proveByOwner() {
        ProofGate gate = gateWithObject(2, 1, 77);
        give(gate, 0, GRANT, 4, READ, 1);
        Due.is("the root is not the owner", gate.prove(4, READ, 1), -2);
        give(gate, 2, GRANT, 4, READ, 0);
        Due.is("another object", gate.prove(4, READ, 1), -2);
        give(gate, 2, GRANT, 3, READ, 1);
        Due.is("another principal", gate.prove(4, READ, 1), -2);
        Due.is("that one may", gate.prove(3, READ, 1), 1);
        give(gate, 2, GRANT, 5, CREATE, 0);
        Due.is("the root alone grants CREATE", gate.prove(5, CREATE, 0), -2);
    }

    private static void proveByNoOther() {
        for (int b = 1; b < 6; b++) {
            for (int x = 0; x < 6; x++) {
                ProofGate gate = gateWithObject(0, 1, 77);
                give(gate, 0, VOICE, b % 5 + 1);
                give(gate, b, GRANT, x, READ, 1);
                Due.is("another one speaks for the owner", gate.prove(x, READ, 1), -2);
                give(gate, 0, VOICE, b);
                Due.is("this one does", gate.prove(x, READ, 1), 3);
            }
        }
    }

    private static void proveByEachRule() {
        ProofGate gate = new ProofGate(5);
        give(gate, 0, VOICE, 1);
        give(gate, 1, GRANT, 3, CREATE, 0);
        Due.is("rule 2", gate.prove(3, CREATE, 0), 3);
        Due.is("its proof", draft(gate), "1:1,0 1:2,0 2:0,1");
        ProofGate second = new ProofGate(5);
        give(second, 1, GRANT, 3, CREATE, 0);
        give(second, 0, TRUST, 1, CREATE, 0, 0);
        Due.is("rule 3", second.prove(3, CREATE, 0), 3);
        Due.is("its proof", draft(second), "1:2,0 1:1,0 3:0,1");
        ProofGate third = new ProofGate(5);
        give(third, 0, GRANT, 3, READ, 0);
        give(third, 0, IMPLY, READ, CREATE);
        Due.is("rule 7", third.prove(3, CREATE, 0), 2);
        Due.is("its proof", draft(third), "1:1,0 7:2,0");
        give(third, 1, IMPLY, READ, WRITE);
        give(third, 0, GRANT, 4, WRITE, 0);
        Due.is("an IMPLY goes one way, for its issuer", third.prove(4, CREATE, 0), -2);
    }

    private static void proveByLinks() {
        ProofGate gate = new ProofGate(5);
        give(gate, 0, TRUST, 1, CREATE, 0, 1);
        give(gate, 1, TRUST, 2, CREATE, 0, 3);
        give(gate, 3, VOICE, 4);
        give(gate, 2, IMPLY, WRITE, CREATE);
        give(gate, 2, GRANT, 5, WRITE, 0);
        Due.is("rule 4", gate.prove(5, CREATE, 0), 6);
        Due.is("its proof", draft(gate), "1:1,0 1:2,0 4:0,1 1:5,0 7:4,3 3:2,4");
        ProofGate second = new ProofGate(5);
        give(second, 0, VOICE, 1);
        give(second, 1, TRUST, 2, CREATE, 0, 0);
        give(second, 2, IMPLY, WRITE, CREATE);
        give(second, 2, GRANT, 5, WRITE, 0);
        Due.is("rule 5", second.prove(5, CREATE, 0), 6);
        Due.is("its proof", draft(second), "1:1,0 1:2,0 5:0,1 1:4,0 7:3,3 3:2,4");
        ProofGate third = new ProofGate(5);
        give(third, 0, VOICE, 1);
        give(third, 1, VOICE, 2);
        give(third, 2, IMPLY, WRITE, CREATE);
        give(third, 2, GRANT, 5, WRITE, 0);
        Due.is("rule 6", third.prove(5, CREATE, 0), 6);
        Due.is("its proof", draft(third), "1:2,0 1:1,0 6:0,1 1:4,0 7:3,3 2:2,4");
    }

    private static void proveDepth() {
        for (int d = 0; d <= 3; d++) {
            for (int e = 0; e <= 3; e++) {
                ProofGate gate = new ProofGate(5);
                give(gate, 0, TRUST, 1, CREATE, 0, d);
                give(gate, 1, TRUST, 2, CREATE, 0, e);
                give(gate, 2, TRUST, 3, CREATE, 0, 0);
                steps(gate, 1, 1, 0, 1, 2, 0, 4, 0, 1, 1, 3, 0, 4, 2, 3);
                give(gate, 3, GRANT, 5, CREATE, 0);
                gate.step(1, 4, 0);
                gate.step(3, 4, 5);
                Due.is("depths " + d + " and " + e, gate.check(5, CREATE, 0), Math.min(d - 1, e) > 0);
            }
        }
    }

    private static void proveLeastWay() {
        ProofGate gate = new ProofGate(5);
        give(gate, 0, VOICE, 4);
        give(gate, 0, VOICE, 3);
        give(gate, 0, TRUST, 1, CREATE, 0, 0);
        give(gate, 1, GRANT, 5, CREATE, 0);
        give(gate, 3, GRANT, 5, CREATE, 0);
        give(gate, 4, GRANT, 5, CREATE, 0);
        gate.prove(5, CREATE, 0);
        Due.is("the least rule, then the least b", draft(gate), "1:2,0 1:5,0 2:0,1");
        give(gate, 0, GRANT, 5, CREATE, 0);
        give(gate, 0, GRANT, 5, CREATE, 0);
        gate.prove(5, CREATE, 0);
        Due.is("the least credential", draft(gate), "1:7,0");
        gate.revoke(0, 7);
        gate.prove(5, CREATE, 0);
        Due.is("the next when it is revoked", draft(gate), "1:8,0");
        ProofGate second = new ProofGate(5);
        give(second, 0, IMPLY, WRITE, CREATE);
        give(second, 0, IMPLY, READ, CREATE);
        give(second, 0, GRANT, 5, READ, 0);
        give(second, 0, GRANT, 5, WRITE, 0);
        second.prove(5, CREATE, 0);
        Due.is("the least IMPLY", draft(second), "1:4,0 7:1,0");
        give(second, 0, TRUST, 2, CREATE, 0, 3);
        give(second, 0, TRUST, 2, CREATE, 0, 1);
        give(second, 2, GRANT, 5, CREATE, 0);
        second.prove(5, CREATE, 0);
        Due.is("trust before IMPLY, the least d", draft(second), "1:6,0 1:7,0 3:0,1");
    }

    private static void proveLeastDeepWay() {
        ProofGate gate = new ProofGate(5);
        give(gate, 0, TRUST, 1, CREATE, 0, 2);
        give(gate, 0, TRUST, 1, CREATE, 0, 1);
        give(gate, 1, TRUST, 2, CREATE, 0, 3);
        give(gate, 1, TRUST, 2, CREATE, 0, 2);
        give(gate, 1, TRUST, 2, CREATE, 0, 0);
        give(gate, 2, IMPLY, WRITE, CREATE);
        give(gate, 2, GRANT, 5, WRITE, 0);
        gate.prove(5, CREATE, 0);
        Due.is("least d of the trust, then its reason", draft(gate), "1:2,0 1:5,0 4:0,1 1:7,0 7:6,3 3:2,4");
        gate.revoke(1, 5);
        gate.prove(5, CREATE, 0);
        Due.is("least e", draft(gate), "1:2,0 1:4,0 4:0,1 1:7,0 7:6,3 3:2,4");
        gate.revoke(0, 2);
        gate.prove(5, CREATE, 0);
        Due.is("next d", draft(gate), "1:1,0 1:4,0 4:0,1 1:7,0 7:6,3 3:2,4");
    }

    private static void proveDepthsOfLinks() {
        ProofGate gate = new ProofGate(5);
        give(gate, 0, TRUST, 1, CREATE, 0, 2);
        give(gate, 1, TRUST, 2, CREATE, 0, 1);
        give(gate, 0, TRUST, 3, CREATE, 0, 1);
        give(gate, 3, TRUST, 2, CREATE, 0, 2);
        give(gate, 2, IMPLY, WRITE, CREATE);
        give(gate, 2, GRANT, 5, WRITE, 0);
        gate.prove(5, CREATE, 0);
        Due.is("by rule 4 the depth is 0 through 3, 1 through 1", draft(gate),
                "1:3,0 1:4,0 4:0,1 1:6,0 7:5,3 3:2,4");
        ProofGate second = new ProofGate(5);
        give(second, 0, VOICE, 1);
        give(second, 1, TRUST, 2, CREATE, 0, 3);
        give(second, 0, TRUST, 3, CREATE, 0, 3);
        give(second, 3, VOICE, 4);
        give(second, 4, TRUST, 2, CREATE, 0, 2);
        give(second, 2, GRANT, 5, READ, 0);
        give(second, 2, IMPLY, READ, WRITE);
        give(second, 2, IMPLY, WRITE, CREATE);
        second.prove(5, CREATE, 0);
        Due.is("by rule 5 the depth stays 3", draft(second),
                "1:3,0 1:4,0 1:5,0 5:1,2 4:0,3 1:6,0 7:7,5 7:8,6 3:4,7");
    }

    private static void proveEarliestRound() {
        ProofGate gate = new ProofGate(5);
        give(gate, 0, VOICE, 1);
        give(gate, 1, VOICE, 2);
        give(gate, 2, GRANT, 5, CREATE, 0);
        give(gate, 0, IMPLY, READ, CREATE);
        give(gate, 0, GRANT, 5, READ, 0);
        gate.prove(5, CREATE, 0);
        Due.is("an earlier round beats a lesser rule", draft(gate), "1:5,0 7:4,0");
        gate.revoke(0, 4);
        gate.prove(5, CREATE, 0);
        Due.is("the least b, though another is as early", draft(gate), "1:1,0 1:2,0 1:3,0 2:1,2 2:0,3");
    }

    private static void proveSharesSteps() {
        ProofGate gate = new ProofGate(5);
        give(gate, 0, VOICE, 1);
        give(gate, 1, VOICE, 0);
        give(gate, 1, GRANT, 5, READ, 2);
        give(gate, 0, IMPLY, READ, WRITE);
        give(gate, 1, IMPLY, WRITE, CREATE);
        Due.is("there and back", gate.prove(5, CREATE, 2), 8);
        Due.is("a fact is proved once", draft(gate), "1:1,0 1:2,0 1:3,0 2:0,2 7:4,3 2:1,4 7:5,5 2:0,6");
    }

    private static void trustRow(ProofGate gate, int r, int from, int to, int skipped) {
        int way = from < to ? 1 : -1;
        for (int i = from; i != to; i += way) {
            if (i != skipped) {
                give(gate, i + way, TRUST, i, r, 0, 0);
            }
        }
    }

    /**
     * From principal start each right goes by trust through all principals, and by IMPLY to the next
     * right: 44 steps from principal 0, two less for each link less. With a voice in place of two
     * links of trust it is one step less.
     */
    private static ProofGate gateOfLongWay(int start, boolean voice) {
        ProofGate gate = new ProofGate(5);
        give(gate, start, GRANT, 5, READ, 0);
        trustRow(gate, READ, start, 5, voice ? 4 : -1);
        give(gate, 5, IMPLY, READ, WRITE);
        trustRow(gate, WRITE, 5, 0, -1);
        give(gate, 0, IMPLY, WRITE, OWN);
        trustRow(gate, OWN, 0, 5, voice ? 4 : -1);
        give(gate, 5, IMPLY, OWN, CREATE);
        trustRow(gate, CREATE, 5, 0, -1);
        if (voice) {
            give(gate, 5, VOICE, 4);
        }
        return gate;
    }

    private static void proveLongWays() {
        Object[][] ways = {{0, false, 44}, {1, false, 42}, {2, false, 40}, {3, false, 38},
            {0, true, 43}, {1, true, 41}, {2, true, 39}};
        for (Object[] way : ways) {
            ProofGate gate = gateOfLongWay((Integer) way[0], (Boolean) way[1]);
            int length = (Integer) way[2];
            boolean fits = length <= 40;
            gate.step(9, 9, 9);
            Due.is("a proof of " + length + " steps", gate.prove(5, CREATE, 0), fits ? length : -3);
            Due.is("the draft has", gate.steps(), fits ? length : 1);
            Due.is("and proves", gate.check(5, CREATE, 0), fits);
            Due.is("request", Due.outcome(() -> gate.request(5, CREATE, 0, 1, false)),
                    fits ? "0" : "throws.UnsupportedOperationException");
            Due.is("the draft stays", gate.steps(), fits ? length : 1);
            Due.is("chain", gate.chain(), fits ? (5 * 31 + 24) * 31 + length : 0);
        }
    }

    private static void checkNeedsEachStep() {
        ProofGate gate = new ProofGate(5);
        Due.is("no steps prove nothing", gate.check(0, READ, 0), false);
        give(gate, 0, GRANT, 2, CREATE, 0);
        give(gate, 0, GRANT, 2, CREATE, 1);
        steps(gate, 1, 1, MIN);
        Due.is("y means nothing with rule 1", gate.check(2, CREATE, 0), true);
        Due.is("another principal", gate.check(1, CREATE, 0), false);
        Due.is("another object", gate.check(2, CREATE, 1), false);
        gate.step(1, 2, 0);
        Due.is("the last step counts", gate.check(2, CREATE, 0), false);
        Due.is("whatever is before it", gate.check(2, CREATE, 1), true);
        for (int rule : new int[] {0, 8, -1, MIN, MAX}) {
            steps(gate, rule, 1, 0, 1, 1, 0);
            Due.is("no rule " + rule, gate.check(2, CREATE, 0), false);
        }
        for (int x : new int[] {0, 3, -1, 24, 25, MIN, MAX}) {
            steps(gate, 1, x, 0, 1, 1, 0);
            Due.is("no credential " + x, gate.check(2, CREATE, 0), false);
        }
        steps(gate, 1, 1, 0);
        gate.pass(99);
        Due.is("at the last time", gate.check(2, CREATE, 0), true);
        gate.pass(1);
        Due.is("after it", gate.check(2, CREATE, 0), false);
    }

    private static void checkRevoked() {
        ProofGate gate = new ProofGate(5);
        give(gate, 0, GRANT, 2, WRITE, 0);
        give(gate, 0, IMPLY, WRITE, CREATE);
        give(gate, 0, GRANT, 2, CREATE, 0);
        steps(gate, 1, 1, 0, 7, 2, 0);
        Due.is("before", gate.check(2, CREATE, 0), true);
        gate.revoke(0, 2);
        Due.is("the IMPLY is revoked", gate.check(2, CREATE, 0), false);
        steps(gate, 1, 1, 0, 1, 3, 0);
        Due.is("a step that is not needed", gate.check(2, CREATE, 0), true);
        gate.revoke(0, 1);
        Due.is("must hold all the same", gate.check(2, CREATE, 0), false);
    }

    private static void checkOneRule() {
        ProofGate gate = new ProofGate(5);
        give(gate, 0, VOICE, 1);
        give(gate, 0, TRUST, 1, CREATE, 0, 0);
        give(gate, 1, GRANT, 3, CREATE, 0);
        give(gate, 1, GRANT, 3, WRITE, 0);
        give(gate, 1, GRANT, 3, CREATE, 1);
        give(gate, 0, IMPLY, WRITE, CREATE);
        give(gate, 2, GRANT, 3, CREATE, 0);
        give(gate, 0, GRANT, 3, WRITE, 0);
        give(gate, 0, GRANT, 3, READ, 0);
        give(gate, 0, TRUST, 3, CREATE, 0, 0);
        int[] base = {1, 1, 0, 1, 2, 0, 1, 3, 0, 1, 4, 0, 1, 5, 0, 1, 7, 0, 1, 8, 0, 1, 9, 0, 1, 10, 0};
        int[][] right = {{2, 0, 2}, {3, 1, 2}, {7, 6, 6}};
        int[][] wrong = {{2, 2, 0}, {2, 1, 2}, {2, 0, 5}, {2, 0, 3}, {2, 0, 4}, {2, 0, 1}, {2, 0, 0},
            {3, 0, 2}, {3, 2, 1}, {3, 1, 3}, {3, 1, 4}, {3, 1, 5}, {3, 1, 1}, {4, 1, 2}, {5, 0, 2}, {6, 0, 2},
            {7, 6, 3}, {7, 6, 7}, {7, 6, 8}, {7, 6, 9}, {7, 6, -1}, {7, 1, 6}, {7, 0, 6}, {7, 11, 6},
            {1, 6, 0}, {1, 3, 0}, {2, 0, 9}, {2, 9, 2}, {2, -1, 2}, {2, 0, -1}, {2, 0, MAX}, {2, MIN, 2},
            {3, 8, 2}, {0, 0, 2}, {8, 0, 2}};
        for (int[] step : right) {
            steps(gate, base);
            gate.step(step[0], step[1], step[2]);
            Due.is("step " + java.util.Arrays.toString(step), gate.check(3, CREATE, 0), true);
        }
        for (int[] step : wrong) {
            // A right proof first: nothing of it may be left for the wrong one.
            steps(gate, base);
            gate.step(2, 0, 2);
            Due.is("a right step", gate.check(3, CREATE, 0), true);
            steps(gate, base);
            gate.step(step[0], step[1], step[2]);
            Due.is("step " + java.util.Arrays.toString(step), gate.check(3, CREATE, 0), false);
        }
    }

    private static void checkLinkRules() {
        ProofGate gate = new ProofGate(5);
        give(gate, 0, VOICE, 1);
        give(gate, 1, VOICE, 2);
        give(gate, 0, TRUST, 1, CREATE, 0, 1);
        give(gate, 0, TRUST, 1, CREATE, 0, 0);
        give(gate, 1, TRUST, 2, CREATE, 0, 0);
        give(gate, 1, TRUST, 2, WRITE, 0, 0);
        give(gate, 1, TRUST, 2, CREATE, 1, 0);
        give(gate, 3, TRUST, 2, CREATE, 0, 0);
        give(gate, 2, GRANT, 5, CREATE, 0);
        int[] base = new int[27];
        for (int k = 0; k < 9; k++) {
            base[3 * k] = 1;
            base[3 * k + 1] = k + 1;
        }
        int[][] links = {{4, 2, 4, 3}, {5, 0, 4, 3}, {6, 1, 0, 2}};
        for (int[] link : links) {
            steps(gate, base);
            gate.step(link[0], link[1], link[2]);
            gate.step(link[3], 9, 8);
            Due.is("link " + java.util.Arrays.toString(link), gate.check(5, CREATE, 0), true);
        }
        int[][] wrong = {{4, 3, 4, 3}, {4, 4, 2, 3}, {4, 2, 5, 3}, {4, 2, 6, 3}, {4, 2, 7, 3}, {4, 0, 4, 3},
            {4, 2, 1, 2}, {5, 4, 0, 3}, {5, 1, 4, 3}, {5, 0, 5, 3}, {5, 0, 6, 3}, {5, 0, 7, 3}, {5, 2, 4, 3},
            {5, 0, 1, 2}, {6, 0, 1, 2}, {6, 1, 1, 2}, {6, 0, 0, 2}, {6, 4, 2, 3}, {6, 1, 2, 2}, {6, 4, 0, 3}};
        for (int[] link : wrong) {
            int[] before = links[link[3] == 2 ? 2 : 0];
            steps(gate, base);
            gate.step(before[0], before[1], before[2]);
            gate.step(before[3], 9, 8);
            Due.is("a right link", gate.check(5, CREATE, 0), true);
            steps(gate, base);
            gate.step(link[0], link[1], link[2]);
            gate.step(link[3], 9, 8);
            Due.is("link " + java.util.Arrays.toString(link), gate.check(5, CREATE, 0), false);
        }
    }

    private static void checkLooksBackOnly() {
        ProofGate gate = new ProofGate(5);
        give(gate, 0, VOICE, 1);
        give(gate, 1, GRANT, 3, CREATE, 0);
        int[][] drafts = {{1, 2, 0, 1, 1, 0}, {1, 2, 0, 2, 1, 0}, {1, 1, 0, 1, 2, 0}, {1, 1, 0, 2, 0, 1},
            {1, 2, 0, 1, 2, 0, 1, 1, 0}, {1, 2, 0, 2, 2, 0}, {2, 1, 2, 1, 1, 0, 1, 2, 0},
            {1, 2, 0, 1, 1, 0}, {1, 2, 0, 2, 1, 0, 1, 1, 0, 2, 2, 0},
            {1, 1, 0, 1, 2, 0}, {1, 1, 0, 2, 0, 1, 1, 2, 0, 2, 0, 2}};
        for (int[] draft : drafts) {
            steps(gate, draft);
            Due.is("draft " + java.util.Arrays.toString(draft), gate.check(3, CREATE, 0), false);
        }
        steps(gate, 1, 2, 0, 1, 1, 0, 2, 1, 0);
        Due.is("earlier steps", gate.check(3, CREATE, 0), true);
    }

    private static void checkImplyOnly() {
        ProofGate gate = new ProofGate(5);
        give(gate, 0, GRANT, WRITE, CREATE, 0);
        give(gate, 0, GRANT, 5, WRITE, 0);
        give(gate, 0, TRUST, WRITE, CREATE, 0, 0);
        give(gate, 0, TRUST, 1, WRITE, 0, 0);
        give(gate, 1, GRANT, 5, CREATE, 0);
        give(gate, 0, IMPLY, WRITE, CREATE);
        steps(gate, 1, 2, 0, 7, 6, 0);
        Due.is("an IMPLY", gate.check(5, CREATE, 0), true);
        steps(gate, 1, 2, 0, 7, 1, 0);
        Due.is("a GRANT with the same numbers", gate.check(5, CREATE, 0), false);
        steps(gate, 1, 2, 0, 7, 3, 0);
        Due.is("a TRUST with the same numbers", gate.check(5, CREATE, 0), false);
        steps(gate, 1, 4, 0, 7, 6, 0, 1, 5, 0, 3, 1, 2);
        Due.is("an IMPLY says nothing of trust", gate.check(5, CREATE, 0), false);
    }

    private static void checkDepthByVoice() {
        for (int d = 3; d >= 0; d--) {
            ProofGate gate = new ProofGate(5);
            give(gate, 0, VOICE, 1);
            give(gate, 1, TRUST, 2, CREATE, 0, d);
            give(gate, 2, TRUST, 3, CREATE, 0, 0);
            give(gate, 3, GRANT, 5, CREATE, 0);
            give(gate, 1, TRUST, 2, CREATE, 0, 3);
            give(gate, 1, TRUST, 2, CREATE, 0, 0);
            steps(gate, 1, 1, 0, 1, 5, 0, 5, 0, 1, 1, 3, 0, 4, 2, 3, 1, 4, 0, 3, 4, 5);
            Due.is("depth 3", gate.check(5, CREATE, 0), true);
            steps(gate, 1, 1, 0, 1, 6, 0, 5, 0, 1, 1, 3, 0, 4, 2, 3, 1, 4, 0, 3, 4, 5);
            Due.is("depth 0", gate.check(5, CREATE, 0), false);
            steps(gate, 1, 1, 0, 1, 2, 0, 5, 0, 1, 1, 3, 0, 4, 2, 3, 1, 4, 0, 3, 4, 5);
            Due.is("depth " + d, gate.check(5, CREATE, 0), d > 0);
        }
    }

    private static void checkOfOwner() {
        ProofGate gate = gateWithObject(2, 1, 77);
        give(gate, 2, GRANT, 4, OWN, 1);
        give(gate, 3, GRANT, 4, OWN, 1);
        steps(gate, 1, 2, 0);
        Due.is("said by the owner", gate.check(4, OWN, 1), true);
        Due.is("request", gate.request(4, OWN, 1, 3, false), 2);
        Due.is("said by the old owner", gate.check(4, OWN, 1), false);
        steps(gate, 1, 3, 0);
        Due.is("said by the new one", gate.check(4, OWN, 1), true);
        Due.is("no more", gate.request(4, OWN, 1, 6, false), 3);
        Due.is("the object is there no more", gate.check(4, OWN, 1), false);
    }

    private static void requestEffects() {
        ProofGate gate = gateWithObject(2, 1, 77);
        give(gate, 2, GRANT, 2, READ, 1);
        give(gate, 2, GRANT, 2, WRITE, 1);
        give(gate, 2, GRANT, 2, OWN, 1);
        give(gate, 4, GRANT, 2, READ, 1);
        give(gate, 4, GRANT, 2, OWN, 1);
        Due.is("read", gate.request(2, READ, 1, 5, false), 77);
        Due.is("write", gate.request(2, WRITE, 1, MIN, false), 77);
        Due.is("read what was written", gate.request(2, READ, 1, 5, false), MIN);
        Due.is("give away", gate.request(2, OWN, 1, 4, false), 2);
        Due.is("the new owner", gate.owner(1), 4);
        Due.is("the value stays", gate.request(2, READ, 1, 5, false), MIN);
        Due.throwing("the new owner said nothing of WRITE", UOE, () -> gate.request(2, WRITE, 1, 5, false));
        Due.is("take away", gate.request(2, OWN, 1, -1, false), 4);
        Due.is("there no more", gate.owner(1), -1);
        Due.throwing("there no more", NSE, () -> gate.request(2, READ, 1, 5, false));
        Due.is("create again", gate.request(2, CREATE, 1, -9, false), 0);
        Due.is("the creator is the owner", gate.owner(1), 2);
        Due.is("with a new value", gate.request(2, READ, 1, 0, false), -9);
        Due.is("grants", gate.grants(), 9);
        int chain = 0;
        int[] rights = {3, 0, 1, 0, 2, 0, 2, 3, 0};
        for (int r : rights) {
            chain = ((chain ^ 2) * 31 + 8 * r + 1) * 31 + 1;
        }
        Due.is("chain", gate.chain(), chain);
    }

    private static void requestOwnTo() {
        for (int v : new int[] {0, 5, 6, -1, MIN, MAX}) {
            ProofGate gate = gateWithObject(2, 1, 77);
            give(gate, 2, GRANT, 3, OWN, 1);
            Due.is("own, " + v, gate.request(3, OWN, 1, v, false), 2);
            Due.is("owner", gate.owner(1), v >= 0 && v <= 5 ? v : -1);
        }
    }

    private static void requestRefusals() {
        ProofGate gate = gateWithObject(2, 1, 77);
        give(gate, 2, GRANT, 2, READ, 1);
        steps(gate, 1, 2, 0);
        int chain = gate.chain();
        for (boolean given : new boolean[] {false, true}) {
            for (int bad : new int[] {-1, 6, MIN, MAX}) {
                Due.throwing("no principal", IAE, () -> gate.request(bad, READ, 1, 0, given));
                Due.throwing("no right", IAE, () -> gate.request(2, bad == 6 ? 4 : bad, 1, 0, given));
                Due.throwing("no object", IAE, () -> gate.request(2, READ, bad, 0, given));
                Due.throwing("no object to create", IAE, () -> gate.request(2, CREATE, bad, 0, given));
            }
            Due.throwing("not there", NSE, () -> gate.request(2, READ, 0, 0, given));
            Due.throwing("there already", NSE, () -> gate.request(2, CREATE, 1, 0, given));
        }
        Due.throwing("not granted", UOE, () -> gate.request(2, WRITE, 1, 0, false));
        Due.is("the draft stays with all of these", draft(gate), "1:2,0");
        Due.throwing("not granted by the draft", UOE, () -> gate.request(2, WRITE, 1, 0, true));
        Due.is("the draft is empty then", gate.steps(), 0);
        Due.throwing("an empty draft grants nothing", UOE, () -> gate.request(2, READ, 1, 0, true));
        Due.is("no grants", gate.grants(), 1);
        Due.is("no link", gate.chain(), chain);
        Due.is("no effect", gate.request(2, READ, 1, 0, false), 77);
    }

    private static void requestGiven() {
        ProofGate gate = gateWithObject(2, 1, 77);
        give(gate, 2, GRANT, 2, READ, 1);
        steps(gate, 1, 1, 0, 1, 2, 0);
        int chain = gate.chain();
        Due.is("not given", gate.request(2, READ, 1, 0, false), 77);
        chain = ((chain ^ 2) * 31 + 1) * 31 + 1;
        Due.is("the prover's proof has one step", gate.chain(), chain);
        Due.is("the draft stays", gate.steps(), 2);
        Due.is("given", gate.request(2, READ, 1, 0, true), 77);
        chain = ((chain ^ 2) * 31 + 1) * 31 + 2;
        Due.is("the draft has two", gate.chain(), chain);
        Due.is("and is empty now", gate.steps(), 0);
        Due.is("grants", gate.grants(), 3);
    }

    private static void requestCrash() {
        for (int r = 0; r < 4; r++) {
            for (boolean given : new boolean[] {false, true}) {
                int right = r;
                int o = r == CREATE ? 0 : 1;
                ProofGate gate = gateWithObject(2, 1, 77);
                give(gate, r == CREATE ? 0 : 2, GRANT, 3, r, o);
                give(gate, 2, GRANT, 3, READ, 1);
                steps(gate, 1, 2, 0);
                int chain = gate.chain();
                gate.fuse(0);
                Due.throwing("crash", ISE, () -> gate.request(3, right, o, 4, given));
                Due.is("no grant", gate.grants(), 1);
                Due.is("no link", gate.chain(), chain);
                Due.is("same owner", gate.owner(1), 2);
                Due.is("not made", gate.owner(0), -1);
                Due.is("the draft is empty", gate.steps(), 0);
                Due.is("same credentials", gate.credentials(), 3);
                Due.is("same value", gate.request(3, READ, 1, 0, false), 77);
                Due.is("the fuse is out", gate.request(3, right, o, 4, false), new int[] {77, 77, 2, 0}[r]);
            }
        }
    }

    private static void fuse() {
        ProofGate gate = gateWithObject(2, 1, 77);
        give(gate, 2, GRANT, 2, READ, 1);
        for (int n : new int[] {-1, 51, MIN, MAX}) {
            Due.is("fuse " + n, gate.fuse(n), false);
        }
        Due.is("none is lit", gate.revoke(2, give(gate, 2, VOICE, 1)), true);
        Due.is("fuse 2", gate.fuse(2), true);
        Due.is("a wrong one leaves it", gate.fuse(51), false);
        Due.is("record 1", give(gate, 2, VOICE, 1), 4);
        Due.throwing("a refusal is no record", UOE, () -> gate.request(2, WRITE, 1, 0, false));
        Due.is("record 2", gate.revoke(2, 4), true);
        Due.throwing("record 3", ISE, () -> gate.request(2, READ, 1, 0, false));
        Due.is("after the crash", gate.request(2, READ, 1, 0, false), 77);
        Due.is("fuse 0", gate.fuse(0), true);
        Due.is("fuse 50 in its place", gate.fuse(50), true);
        for (int i = 0; i < 50; i++) {
            Due.is("record " + i, gate.request(2, READ, 1, 0, false), 77);
        }
        gate.step(1, 1, 1);
        Due.throwing("record 51", ISE, () -> gate.request(2, READ, 1, 0, false));
        Due.is("the draft is empty", gate.steps(), 0);
        Due.is("grants", gate.grants(), 52);
        gate.fuse(3);
        Due.is("fuse 0 in its place", gate.fuse(0), true);
        Due.throwing("at once", ISE, () -> give(gate, 2, VOICE, 1));
        Due.is("all that was recorded is there", gate.credentials(), 4);
        Due.is("revocations too", gate.valid(4), false);
        Due.is("and objects", gate.owner(1), 2);
        Due.is("time goes on from where it was", gate.pass(1), 1);
    }

    private static void owner() {
        ProofGate gate = gateWithObject(2, 5, 77);
        give(gate, 0, GRANT, 0, CREATE, 0);
        gate.request(0, CREATE, 0, 1, false);
        int[] due = {-1, 0, -1, -1, -1, -1, 2, -1};
        for (int o = -1; o <= 6; o++) {
            Due.is("owner " + o, gate.owner(o), due[o + 1]);
        }
        Due.is("owner of the least", gate.owner(MIN), -1);
        Due.is("owner of the most", gate.owner(MAX), -1);
    }

    private static void valid() {
        ProofGate gate = new ProofGate(5);
        giveFor(gate, 2, 4, 1, VOICE, 1);
        giveFor(gate, 3, 3, 1, VOICE, 1);
        giveFor(gate, 4, 3, 1, VOICE, 1);
        giveFor(gate, -5, -1, 1, VOICE, 1);
        String[] due = {"0000", "0000", "1000", "1100", "1000", "0000"};
        for (int time = 0; time < due.length; time++) {
            for (int number = 1; number <= 4; number++) {
                Due.is("credential " + number + " at " + time, gate.valid(number), due[time].charAt(number - 1) == '1');
            }
            gate.pass(1);
        }
        for (int number : new int[] {0, 5, -1, MIN, MAX}) {
            Due.is("no credential " + number, gate.valid(number), false);
        }
    }

    private static void validMatters() {
        ProofGate gate = new ProofGate(5);
        giveFor(gate, 1, 1, 0, GRANT, 3, CREATE, 0);
        giveFor(gate, 2, 2, 0, VOICE, 1);
        giveFor(gate, 2, 3, 1, GRANT, 3, CREATE, 0);
        giveFor(gate, 3, 3, 0, TRUST, 1, CREATE, 0, 0);
        giveFor(gate, 4, 4, 0, IMPLY, READ, CREATE);
        giveFor(gate, 4, 5, 0, GRANT, 3, READ, 0);
        String[] due = {"", "1:1,0", "1:2,0 1:3,0 2:0,1", "1:4,0 1:3,0 3:0,1", "1:6,0 7:5,0", ""};
        for (int time = 0; time < due.length; time++) {
            gate.clear();
            int length = due[time].isEmpty() ? -2 : due[time].split(" ").length;
            Due.is("prove at " + time, gate.prove(3, CREATE, 0), length);
            Due.is("proof at " + time, draft(gate), due[time]);
            gate.pass(1);
        }
    }

    public static void main(String[] args) {
        newObject();
        newObjectSetNumbers();
        seal();
        submit();
        submitRanges();
        submitWhenFull();
        submitFullKeepsFuse();
        submitCrash();
        set();
        revoke();
        revokeCrash();
        pass();
        step();
        proveNames();
        proveByOwner();
        proveByNoOther();
        proveByEachRule();
        proveByLinks();
        proveDepth();
        proveLeastWay();
        proveLeastDeepWay();
        proveDepthsOfLinks();
        proveEarliestRound();
        proveSharesSteps();
        proveLongWays();
        checkNeedsEachStep();
        checkRevoked();
        checkOneRule();
        checkLinkRules();
        checkLooksBackOnly();
        checkImplyOnly();
        checkDepthByVoice();
        checkOfOwner();
        requestEffects();
        requestOwnTo();
        requestRefusals();
        requestGiven();
        requestCrash();
        fuse();
        owner();
        valid();
        validMatters();
        Due.finish();
    }
}

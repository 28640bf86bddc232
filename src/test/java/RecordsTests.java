import java.math.BigInteger;
import java.util.Arrays;

/** The sentences on seals, the chain, the records and the fuse; each with a test of its own. */
public final class RecordsTests extends Gates {
    private static final int[] EDGES = {MIN, MIN + 1, -98, -1, 0, 1, 5, 97, 65535, 65536, MAX - 1, MAX};

    private RecordsTests() {
    }

    public static void main(String[] args) {
        Sentences.runAll(RecordsTests.class);
    }

    private static BigInteger unsigned(long number) {
        return BigInteger.valueOf(number).and(BigInteger.valueOf(0xFFFFFFFFL));
    }

    private static BigInteger times(BigInteger number, int factor) {
        return number.multiply(BigInteger.valueOf(factor)).and(BigInteger.valueOf(0xFFFFFFFFL));
    }

    /** By the document's words, in numbers of any size: issuer, kind, the four that it has, first, last. */
    private static int sealByTheWords(int secret, int... eight) {
        BigInteger mark = BigInteger.ZERO;
        for (int number : eight) {
            mark = times(mark.xor(unsigned(number)), 1540483477);
            mark = mark.xor(mark.shiftRight(15));
        }
        BigInteger secretOfIssuer = unsigned(secret + 97L * eight[0]);
        return in32Bits(times(mark.xor(secretOfIssuer), 668265263));
    }

    private static int seal(int secret, int... n) {
        return new ProofGate(secret).seal(n[0], n[1], n[2], n[3], n[4], n[5], n[6], n[7]);
    }

    @Sentence(of = "Seals", words = "the MARK of a credential is 0 at first")
    static void knownSeals() {
        Due.is("GRANT", seal(5, 0, GRANT, 2, 3, 1, 0, 0, 9), 1316120149);
        Due.is("GRANT of another issuer", seal(5, 2, GRANT, 4, 0, 1, 0, 1, 3), -1964748590);
        Due.is("VOICE", seal(5, 1, VOICE, 2, 0, 0, 0, 0, 0), 1234113075);
        Due.is("TRUST", seal(5, 0, TRUST, 1, 1, 0, 2, 0, 99), 2090122639);
        Due.is("IMPLY", seal(5, 0, IMPLY, 1, 3, 0, 0, 0, 99), 249473564);
        Due.is("all 0", seal(0, 0, 0, 0, 0, 0, 0, 0, 0), 0);
        Due.is("one that was asked before changes nothing", sealAfterAnother(), 1316120149);
    }

    private static int sealAfterAnother() {
        ProofGate gate = new ProofGate(5);
        gate.seal(3, TRUST, 5, 3, 5, 3, 8, 9);
        return gate.seal(0, GRANT, 2, 3, 1, 0, 0, 9);
    }

    @Sentence(of = "Seals", words = "then for each of issuer, kind, its four numbers")
    static void eachNumberCounts() {
        int[] numbers = {4, TRUST, 3, 2, 5, 1, 7, 11};
        Due.is("by the words", seal(5, numbers), sealByTheWords(5, numbers));
        for (int i = 0; i < 8; i++) {
            for (int edge : EDGES) {
                int[] other = numbers.clone();
                other[i] = i == 1 ? TRUST : edge;
                Due.is("with " + Arrays.toString(other), seal(5, other), sealByTheWords(5, other));
            }
        }
    }

    /** Which of the four numbers count in a seal of this kind, 1 or 0 each. */
    private static void countsOnly(int kind, int... counts) {
        for (int edge : EDGES) {
            for (int i = 0; i < 4; i++) {
                int[] asked = {1, kind, 2, 2, 2, 2, 0, 9};
                int[] counted = {1, kind, 2 * counts[0], 2 * counts[1], 2 * counts[2], 2 * counts[3], 0, 9};
                asked[i + 2] = edge;
                counted[i + 2] = edge * counts[i];
                Due.is("seal of " + Arrays.toString(asked), seal(5, asked), sealByTheWords(5, counted));
            }
        }
    }

    @Sentence(of = "Seals", words = "those that it has not are 0: GRANT x, r, o, 0")
    static void numbersOfGrant() {
        countsOnly(GRANT, 1, 1, 1, 0);
    }

    @Sentence(of = "Seals", words = "VOICE b, 0, 0, 0")
    static void numbersOfVoice() {
        countsOnly(VOICE, 1, 0, 0, 0);
    }

    @Sentence(of = "Seals", words = "TRUST b, r, o, d")
    static void numbersOfTrust() {
        countsOnly(TRUST, 1, 1, 1, 1);
    }

    @Sentence(of = "Seals", words = "IMPLY r, s, 0, 0")
    static void numbersOfImply() {
        countsOnly(IMPLY, 1, 1, 0, 0);
    }

    @Sentence(of = "Seals", words = "with any other kind all four")
    static void numbersOfOtherKinds() {
        for (int kind : NOT_0_TO_3) {
            countsOnly(kind, 1, 1, 1, 1);
        }
        countsOnly(5, 1, 1, 1, 1);
        countsOnly(-4, 1, 1, 1, 1);
    }

    @Sentence(of = "Seals", words = "and then mark = mark ^ (mark >>> 15), all in 32 bits.")
    static void sealsIn32Bits() {
        for (int a : EDGES) {
            for (int b : EDGES) {
                int[] numbers = {a, TRUST, b, a, b, a, b, a};
                Due.is("seal of " + Arrays.toString(numbers), seal(b, numbers), sealByTheWords(b, numbers));
            }
        }
    }

    @Sentence(of = "Seals", words = "the secret of principal p is the constructor's argument + 97 * p.")
    static void secrets() {
        for (int secret : EDGES) {
            for (int p = -1; p <= 6; p++) {
                Due.is("secret " + secret + " of " + p, seal(secret, p, VOICE, 1, 0, 0, 0, 0, 9),
                        sealByTheWords(secret, p, VOICE, 1, 0, 0, 0, 0, 9));
            }
        }
        int ofFive = seal(0, 5, VOICE, 1, 0, 0, 0, 0, 9);
        Due.is("each gate has its own", seal(1, 5, VOICE, 1, 0, 0, 0, 0, 9) != ofFive, true);
    }

    @Sentence(of = "The chain", words = "THE CHAIN of the audit log is 0 at first")
    static void chainAtFirst() {
        for (int secret : EDGES) {
            Due.is("chain", new ProofGate(secret).chain(), 0);
        }
    }

    @Sentence(of = "The chain", words = "with each grant it becomes ((chain ^ p) * 31 + 8 * r + o) * 31 + the "
            + "number of the proof's steps.")
    static void chainOfGrants() {
        ProofGate gate = new ProofGate(5);
        int chain = 0;
        for (int o = 0; o <= 5; o++) {
            give(gate, ROOT, GRANT, 5 - o, CREATE, o);
            give(gate, 5 - o, GRANT, o, OWN, o);
            gate.request(5 - o, CREATE, o, 1, false);
            chain = link(chain, 5 - o, CREATE, o, 1);
            Due.is("after CREATE", gate.chain(), chain);
            steps(gate, 1, 1, 0, 1, 1, 0, 1, 2 * o + 2, 0);
            gate.request(o, OWN, o, 5 - o, true);
            chain = link(chain, o, OWN, o, 3);
            Due.is("after OWN", gate.chain(), chain);
        }
    }

    @Sentence(of = "The chain", words = "with each grant it becomes")
    static void chainWrapsAround() {
        ProofGate gate = withReadable();
        int chain = gate.chain();
        boolean wasBelow0 = false;
        boolean wasAbove0 = false;
        for (int i = 0; i < 40; i++) {
            gate.request(2, READ, 1, 0, false);
            chain = link(chain, 2, READ, 1, 1);
            wasBelow0 |= chain < 0;
            wasAbove0 |= wasBelow0 && chain > 0;
            Due.is("after grant " + i, gate.chain(), chain);
        }
        Due.is("it has gone round", wasBelow0 && wasAbove0, true);
    }

    /** All that can be seen but for the draft, values and the time. */
    private static String state(ProofGate gate) {
        StringBuilder text = new StringBuilder();
        text.append(gate.credentials()).append(' ');
        for (int number = 0; number <= 25; number++) {
            text.append(gate.valid(number) ? 1 : 0);
        }
        for (int o = -1; o <= 6; o++) {
            text.append(' ').append(gate.owner(o));
        }
        return text.append(' ').append(gate.grants()).append(' ').append(gate.chain()).toString();
    }

    @Sentence(of = "Records", words = "RECORDS are written for: a credential that is taken")
    static void recordOfSubmit() {
        ProofGate gate = withReadable();
        gate.fuse(1);
        Due.is("a credential is taken", give(gate, 1, VOICE, 2), 3);
        Due.throwing("that was the one record", ISE, () -> give(gate, 1, VOICE, 2));
    }

    @Sentence(of = "Records", words = "a revocation")
    static void recordOfRevoke() {
        ProofGate gate = withReadable();
        giveMany(gate, 2);
        gate.fuse(1);
        Due.is("a revocation", gate.revoke(1, 3), true);
        Due.throwing("that was the one record", ISE, () -> bit(gate.revoke(1, 4)));
    }

    @Sentence(of = "Records", words = "a grant.")
    static void recordOfGrant() {
        for (boolean given : GIVEN_OR_NOT) {
            ProofGate gate = withReadable();
            gate.fuse(1);
            steps(gate, 1, 2, 0);
            Due.is("a grant", gate.request(2, READ, 1, 0, given), 77);
            steps(gate, 1, 2, 0);
            Due.throwing("that was the one record", ISE, () -> gate.request(2, READ, 1, 0, given));
        }
    }

    @Sentence(of = "Records", words = "RECORDS are written for: a credential that is taken, a revocation, a grant.")
    static void noOtherRecords() {
        ProofGate gate = withReadable();
        giveMany(gate, 2);
        gate.revoke(1, 3);
        gate.fuse(0);
        Due.throwing("no such kind", IAE, () -> give(gate, 1, 4, 2));
        Due.throwing("a wrong seal", UOE, () -> gate.submit(1, VOICE, 0, 99, 1));
        Due.is("revoked already", gate.revoke(1, 3), false);
        Due.throwing("no such credential", NSE, () -> bit(gate.revoke(1, 5)));
        Due.throwing("not the issuer", UOE, () -> bit(gate.revoke(2, 4)));
        Due.throwing("no such principal", IAE, () -> gate.request(6, READ, 1, 0, false));
        Due.throwing("not there", NSE, () -> gate.request(2, READ, 0, 0, false));
        Due.throwing("not granted", UOE, () -> gate.request(2, WRITE, 1, 0, false));
        Due.throwing("not granted by the draft", UOE, () -> gate.request(2, READ, 1, 0, true));
        Due.is("pass", gate.pass(1), 1);
        Due.is("prove", gate.prove(2, READ, 1), 1);
        Due.is("step", gate.step(1, 2, 0), 1);
        Due.is("check", gate.check(2, READ, 1), true);
        Due.is("clear", gate.clear(), 2);
        Due.is("a wrong fuse", gate.fuse(51), false);
        state(gate);
        Due.throwing("the fuse is as it was lit", ISE, () -> gate.request(2, READ, 1, 0, false));
    }

    @Sentence(of = "Records", words = "a credential that is taken")
    static void noRecordWhenFull() {
        ProofGate gate = new ProofGate(5);
        giveMany(gate, 24);
        gate.step(1, 1, 0);
        gate.fuse(0);
        Due.throwing("the 25th", ISE, () -> give(gate, 1, VOICE, 2));
        Due.is("that was no crash", gate.steps(), 1);
        Due.throwing("the fuse is still lit", ISE, () -> bit(gate.revoke(1, 24)));
        Due.is("this was one", gate.steps(), 0);
        Due.is("so it is not revoked", gate.valid(24), true);
    }

    @Sentence(of = "The fuse", words = "if it is lit with n, lets n records be written; the one after these is not")
    static void recordsOfFuse() {
        for (int n = 0; n <= 50; n++) {
            ProofGate gate = withReadable();
            gate.fuse(n);
            int credentials = 2;
            for (int i = 0; i < n; i++) {
                if (i % 3 == 0 && credentials < 22) {
                    credentials++;
                    Due.is("record " + i + " of " + n, give(gate, 2, VOICE, 1), credentials);
                } else if (i % 3 == 1 && gate.valid(credentials) && credentials > 2) {
                    Due.is("record " + i + " of " + n, gate.revoke(2, credentials), true);
                } else {
                    Due.is("record " + i + " of " + n, gate.request(2, READ, 1, 0, false), 77);
                }
            }
            Due.throwing("the one after " + n, ISE, n % 3 == 0 ? () -> give(gate, 2, VOICE, 1)
                    : n % 3 == 1 ? () -> bit(gate.revoke(2, 2)) : () -> gate.request(2, READ, 1, 0, false));
        }
    }

    @Sentence(of = "The fuse", words = "the machine CRASHES: the call has no other effect")
    static void crashOfSubmit() {
        ProofGate gate = withReadable();
        String before = state(gate);
        gate.fuse(0);
        Due.throwing("crash", ISE, () -> give(gate, 1, VOICE, 2));
        Due.is("state", state(gate), before);
        Due.is("value", gate.request(2, READ, 1, 0, false), 77);
        Due.is("number of the next", give(gate, 1, VOICE, 2), 3);
        Due.is("time", gate.pass(1), 1);
    }

    @Sentence(of = "The fuse", words = "the call has no other effect")
    static void crashOfRevoke() {
        ProofGate gate = withReadable();
        String before = state(gate);
        gate.fuse(0);
        Due.throwing("crash", ISE, () -> bit(gate.revoke(2, 2)));
        Due.is("state", state(gate), before);
        Due.is("value", gate.request(2, READ, 1, 0, false), 77);
        Due.is("it can be revoked yet", gate.revoke(2, 2), true);
        Due.is("time", gate.pass(1), 1);
    }

    @Sentence(of = "The fuse", words = "the one after these is not, the machine CRASHES: the call has no other effect")
    static void crashOfRequest() {
        for (int r = READ; r <= CREATE; r++) {
            for (boolean given : GIVEN_OR_NOT) {
                for (int v : new int[] {4, 6}) {
                    int right = r;
                    int o = r == CREATE ? 0 : 1;
                    ProofGate gate = withReadable();
                    steps(gate, 1, give(gate, r == CREATE ? ROOT : 2, GRANT, 3, r, o), 0);
                    String before = state(gate);
                    gate.fuse(0);
                    Due.throwing("crash", ISE, () -> gate.request(3, right, o, v, given));
                    Due.is("state", state(gate), before);
                    Due.is("value", gate.request(2, READ, 1, 0, false), 77);
                    Due.is("now it goes", gate.request(3, r, o, v, false), new int[] {77, 77, 2, 0}[r]);
                    Due.is("time", gate.pass(1), 1);
                }
            }
        }
    }

    @Sentence(of = "The fuse", words = "throws IllegalStateException, and the fuse is out.")
    static void fuseIsOut() {
        for (int n = 0; n <= 2; n++) {
            ProofGate gate = withReadable();
            gate.fuse(n);
            for (int i = 0; i < n; i++) {
                gate.request(2, READ, 1, 0, false);
            }
            Due.throwing("crash", ISE, () -> gate.request(2, READ, 1, 0, false));
            for (int i = 0; i < 60; i++) {
                Due.is("a record after the crash", gate.request(2, READ, 1, 0, false), 77);
            }
            Due.is("it can be lit anew", gate.fuse(0), true);
            Due.throwing("another crash", ISE, () -> gate.request(2, READ, 1, 0, false));
        }
    }

    @Sentence(of = "The fuse", words = "A crash empties the draft")
    static void crashEmptiesDraft() {
        for (int kind = 0; kind < 4; kind++) {
            ProofGate gate = withReadable();
            steps(gate, 1, 2, 0);
            gate.fuse(0);
            Due.throwing("crash", ISE, kind == 0 ? () -> give(gate, 1, VOICE, 2)
                    : kind == 1 ? () -> bit(gate.revoke(2, 2))
                    : kind == 2 ? () -> gate.request(2, READ, 1, 0, false) : () -> gate.request(2, READ, 1, 0, true));
            Due.is("steps", gate.steps(), 0);
            Due.is("step 0", gate.stepAt(0, 0), -1);
            Due.is("check", gate.check(2, READ, 1), false);
            Due.is("clear", gate.clear(), 0);
        }
    }

    @Sentence(of = "The fuse", words = "all that was recorded is there.")
    static void recordedIsThere() {
        ProofGate gate = withReadable();
        give(gate, 2, GRANT, 2, WRITE, 1);
        giveMany(gate, 2);
        gate.fuse(4);
        gate.revoke(1, 5);
        gate.request(2, WRITE, 1, 78, false);
        give(gate, ROOT, GRANT, 3, CREATE, 4);
        gate.request(3, CREATE, 4, 79, false);
        String before = state(gate);
        Due.throwing("crash", ISE, () -> bit(gate.revoke(1, 4)));
        Due.is("credentials, owners, grants, chain", state(gate), before);
        Due.is("the credential before the crash", gate.credentials(), 6);
        Due.is("the revocation", gate.valid(5), false);
        Due.is("the value that was written", gate.request(2, READ, 1, 0, false), 78);
        Due.is("the object that was made", gate.owner(4), 3);
        Due.is("the grants", gate.grants(), 4);
    }
}

import java.math.BigInteger;
import java.util.Arrays;
import java.util.NoSuchElementException;

/** What the tests of the sentences share: the document's numbers, and gates in states to start from. */
abstract class Gates {
    static final int ROOT = 0;
    static final int GRANT = 0;
    static final int VOICE = 1;
    static final int TRUST = 2;
    static final int IMPLY = 3;
    static final int READ = 0;
    static final int WRITE = 1;
    static final int OWN = 2;
    static final int CREATE = 3;
    static final int MIN = Integer.MIN_VALUE;
    static final int MAX = Integer.MAX_VALUE;
    static final int[] NOT_0_TO_5 = {MIN, -1, 6, MAX};
    static final int[] NOT_0_TO_3 = {MIN, -1, 4, MAX};
    static final boolean[] GIVEN_OR_NOT = {true, false};
    static final Class<IllegalArgumentException> IAE = IllegalArgumentException.class;
    static final Class<NoSuchElementException> NSE = NoSuchElementException.class;
    static final Class<UnsupportedOperationException> UOE = UnsupportedOperationException.class;
    static final Class<IllegalStateException> ISE = IllegalStateException.class;

    /** Submits with the right seal, for the times 0 to 99: three calls. */
    static int give(ProofGate gate, int issuer, int kind, int... numbers) {
        return giveFor(gate, 0, 99, issuer, kind, numbers);
    }

    static int giveFor(ProofGate gate, int first, int last, int issuer, int kind, int... numbers) {
        int[] n = Arrays.copyOf(numbers, 4);
        gate.set(n[0], n[1], n[2], n[3]);
        return gate.submit(issuer, kind, first, last, gate.seal(issuer, kind, n[0], n[1], n[2], n[3], first, last));
    }

    /** Many of a kind, each of which says no more than the first. */
    static void giveMany(ProofGate gate, int count) {
        for (int i = 0; i < count; i++) {
            give(gate, 1, VOICE, 2);
        }
    }

    /** A gate with object o there, made by p with value v: one credential, one grant, four calls. */
    static ProofGate withObject(int p, int o, int v) {
        ProofGate gate = new ProofGate(5);
        give(gate, ROOT, GRANT, p, CREATE, o);
        gate.request(p, CREATE, o, v, false);
        return gate;
    }

    /** Object 1 of owner 2 with value 77, which 2 may READ by credential 2. */
    static ProofGate withReadable() {
        ProofGate gate = withObject(2, 1, 77);
        give(gate, 2, GRANT, 2, READ, 1);
        return gate;
    }

    /** A gate with no object, and credential 1, by which 5 may CREATE object 0. */
    static ProofGate withGrant() {
        ProofGate gate = new ProofGate(5);
        give(gate, ROOT, GRANT, 5, CREATE, 0);
        return gate;
    }

    static long bit(boolean answer) {
        return answer ? 1 : 0;
    }

    static String draft(ProofGate gate) {
        StringBuilder text = new StringBuilder();
        for (int k = 0; k < gate.steps(); k++) {
            text.append(k == 0 ? "" : " ").append(gate.stepAt(k, 0)).append(':')
                    .append(gate.stepAt(k, 1)).append(',').append(gate.stepAt(k, 2));
        }
        return text.toString();
    }

    /** The draft becomes these steps, a rule, an x and a y each. */
    static void steps(ProofGate gate, int... rulesXsYs) {
        gate.clear();
        for (int i = 0; i < rulesXsYs.length; i += 3) {
            gate.step(rulesXsYs[i], rulesXsYs[i + 1], rulesXsYs[i + 2]);
        }
    }

    /** Puts steps by rule 1 with the credentials from..to behind the draft. */
    static void sayAll(ProofGate gate, int from, int to) {
        for (int number = from; number <= to; number++) {
            gate.step(1, number, 0);
        }
    }

    /** What the prover writes for p to CREATE object 0: the proof, or its answer when there is none. */
    static String proofFor(ProofGate gate, int p) {
        gate.clear();
        int answer = gate.prove(p, CREATE, 0);
        return answer < 0 ? Integer.toString(answer) : draft(gate);
    }

    /** The low 32 bits of a number of any size, as an int. */
    static int in32Bits(BigInteger number) {
        return number.intValue();
    }

    static int link(int chain, int p, int r, int o, int length) {
        BigInteger turned = BigInteger.valueOf(chain ^ p).multiply(BigInteger.valueOf(31));
        BigInteger both = turned.add(BigInteger.valueOf(8L * r + o)).multiply(BigInteger.valueOf(31));
        return in32Bits(both.add(BigInteger.valueOf(length)));
    }

    private static void trustRow(ProofGate gate, int r, int from, int to, int skipped) {
        int way = from < to ? 1 : -1;
        for (int i = from; i != to; i += way) {
            if (i != skipped) {
                give(gate, i + way, TRUST, i, r, 0, 0);
            }
        }
    }

    /**
     * From principal start each right goes by trust through all principals, and by IMPLY to the next
     * right, until 5 may CREATE object 0: 44 steps from principal 0, two less for each link less.
     * With a voice in place of two links of trust it is one step less.
     */
    private static ProofGate withLongWay(int start, boolean voice) {
        ProofGate gate = new ProofGate(5);
        give(gate, start, GRANT, 5, READ, 0);
        trustRow(gate, READ, start, 5, voice ? 4 : -1);
        give(gate, 5, IMPLY, READ, WRITE);
        trustRow(gate, WRITE, 5, 0, -1);
        give(gate, 0, IMPLY, WRITE, OWN);
        trustRow(gate, OWN, 0, 5, voice ? 4 : -1);
        give(gate, 5, IMPLY, OWN, CREATE);
        trustRow(gate, CREATE, 5, 0, -1);
        if (voice) {
            give(gate, 5, VOICE, 4);
        }
        return gate;
    }

    /** A gate on which the proof that 5 may CREATE object 0 has so many steps (38 to 44). */
    static ProofGate withProofOf(int length) {
        boolean voice = length % 2 != 0;
        return withLongWay((voice ? 43 - length : 44 - length) / 2, voice);
    }
}

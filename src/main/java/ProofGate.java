import java.util.ArrayList;
import java.util.Arrays;
import java.util.NoSuchElementException;

/** A server of objects that grants what is proved, and keeps a chained audit log of its grants. */
public final class ProofGate {
    private static final int PRINCIPALS = 6;
    private static final int ROOT = 0;
    private static final int OBJECTS = 6;
    private static final int RIGHTS = 4;
    private static final int DEPTHS = 4;
    private static final int NOBODY = -1;

    private static final int READ = 0;
    private static final int WRITE = 1;
    private static final int OWN = 2;
    private static final int CREATE = 3;

    private static final int MOST_CREDENTIALS = 24;
    private static final int MOST_STEPS = 40;
    private static final int LONGEST_PASS = 100;
    private static final int LONGEST_FUSE = 50;

    private static final int NO_SUCH_GOAL = -1;
    private static final int NOT_FOUND = -2;
    private static final int TOO_LONG = -3;

    /** The first three kinds of credentials are also the kinds of the facts that they say. */
    private static final int GRANT = 0;
    private static final int VOICE = 1;
    private static final int TRUST = 2;
    private static final int IMPLY = 3;
    private static final int KINDS = 4;

    private static final int SAID = 1;
    private static final int MAY_BY_VOICE = 2;
    private static final int MAY_BY_TRUST = 3;
    private static final int TRUST_BY_TRUST = 4;
    private static final int TRUST_BY_VOICE = 5;
    private static final int VOICE_BY_VOICE = 6;
    private static final int IMPLIED = 7;

    private final int secret;
    private final int[] numbers = new int[Credential.NUMBERS];
    private final Credentials held = new Credentials();
    private final Proof draft = new Proof();
    private final Prover prover = new Prover(held);
    private final Checker checker = new Checker(held);
    private final AuditLog log = new AuditLog();
    private final Fuse wire = new Fuse();
    private final int[] owners = new int[OBJECTS];
    private final int[] values = new int[OBJECTS];

    public ProofGate(int secret) {
        this.secret = secret;
        Arrays.fill(owners, NOBODY);
    }

    public int seal(int issuer, int kind, int a, int b, int c, int d, int first, int last) {
        int[] given = {a, b, c, d};
        return sealOf(new Credential(issuer, kind, given, first, last));
    }

    public int submit(int issuer, int kind, int first, int last, int seal)
            throws IllegalArgumentException, UnsupportedOperationException, IllegalStateException {
        Credential credential = new Credential(issuer, kind, numbers, first, last);
        if (!credential.isWellFormed()) {
            throw new IllegalArgumentException("no such issuer or kind, or a number out of its range");
        }
        if (sealOf(credential) != seal) {
            throw new UnsupportedOperationException("the seal is not right");
        }
        if (held.count() >= MOST_CREDENTIALS) {
            throw new IllegalStateException("no room for another credential");
        }
        writeRecord();
        return held.take(credential);
    }

    public void set(int a, int b, int c, int d) {
        numbers[0] = a;
        numbers[1] = b;
        numbers[2] = c;
        numbers[3] = d;
    }

    public boolean revoke(int p, int credential)
            throws NoSuchElementException, UnsupportedOperationException, IllegalStateException {
        Credential found = held.find(credential);
        if (found == null) {
            throw new NoSuchElementException("no such credential");
        }
        if (found.issuer != p) {
            throw new UnsupportedOperationException("not the issuer");
        }
        if (found.revoked) {
            return false;
        }
        writeRecord();
        found.revoked = true;
        return true;
    }

    public int pass(int n) {
        return n >= 1 && n <= LONGEST_PASS ? held.letTimeGoOn(n) : -1;
    }

    public int step(int rule, int x, int y) {
        return draft.append(rule, x, y);
    }

    public int clear() {
        return draft.makeEmpty();
    }

    public int steps() {
        return draft.length();
    }

    public int stepAt(int k, int w) {
        if (!draft.hasStep(k)) {
            return -1;
        }
        switch (w) {
            case 0: return draft.ruleAt(k);
            case 1: return draft.xAt(k);
            case 2: return draft.yAt(k);
            default: return -1;
        }
    }

    public int prove(int p, int r, int o) {
        if (!isNamed(p, r, o) || !isOpenTo(r, o)) {
            return NO_SUCH_GOAL;
        }
        int answer = prover.writeProof(sayerOfGoal(r, o), p, r, o);
        if (answer > 0) {
            draft.become(prover.written());
        }
        return answer;
    }

    public boolean check(int p, int r, int o) {
        return isNamed(p, r, o) && isOpenTo(r, o) && checker.accepts(draft, sayerOfGoal(r, o), p, r, o);
    }

    public int request(int p, int r, int o, int v, boolean given)
            throws IllegalArgumentException, NoSuchElementException,
            UnsupportedOperationException, IllegalStateException {
        if (!isNamed(p, r, o)) {
            throw new IllegalArgumentException("no such principal, right or object");
        }
        if (!isOpenTo(r, o)) {
            throw new NoSuchElementException("the object is not there, or is there already");
        }
        int length = given ? useUpDraft(p, r, o) : prover.writeProof(sayerOfGoal(r, o), p, r, o);
        if (length <= 0) {
            throw new UnsupportedOperationException("not granted");
        }
        writeRecord();
        log.addGrant(p, r, o, length);
        return carryOut(p, r, o, v);
    }

    public boolean fuse(int n) {
        if (n < 0 || n > LONGEST_FUSE) {
            return false;
        }
        wire.light(n);
        return true;
    }

    public int owner(int o) {
        return isObject(o) ? owners[o] : NOBODY;
    }

    public int credentials() {
        return held.count();
    }

    public boolean valid(int credential) {
        return held.findValid(credential) != null;
    }

    public int grants() {
        return log.count();
    }

    public int chain() {
        return log.link();
    }

    private int sealOf(Credential credential) {
        int secretOfIssuer = secret + 97 * credential.issuer;
        return (credential.mark() ^ secretOfIssuer) * 668265263;
    }

    /** Called before a call's first effect, so that a crash leaves nothing of the call behind. */
    private void writeRecord() throws IllegalStateException {
        if (wire.burnsThrough()) {
            draft.makeEmpty();
            throw new IllegalStateException("the machine crashed");
        }
    }

    /** The length of the draft if it proves the goal, otherwise 0; the draft is spent either way. */
    private int useUpDraft(int p, int r, int o) {
        boolean proved = checker.accepts(draft, sayerOfGoal(r, o), p, r, o);
        int length = draft.makeEmpty();
        return proved ? length : 0;
    }

    private int carryOut(int p, int r, int o, int v) {
        int oldOwner = owners[o];
        int oldValue = values[o];
        switch (r) {
            case READ:
                return oldValue;
            case WRITE:
                values[o] = v;
                return oldValue;
            case OWN:
                owners[o] = isPrincipal(v) ? v : NOBODY;
                return oldOwner;
            default:
                owners[o] = p;
                values[o] = v;
                return 0;
        }
    }

    private int sayerOfGoal(int r, int o) {
        return r == CREATE ? ROOT : owners[o];
    }

    /** CREATE is for objects that are not there, every other right for those that are. */
    private boolean isOpenTo(int r, int o) {
        return (r == CREATE) == (owners[o] == NOBODY);
    }

    private static boolean isNamed(int p, int r, int o) {
        return isPrincipal(p) && r >= 0 && r < RIGHTS && isObject(o);
    }

    private static boolean isPrincipal(int p) {
        return p >= 0 && p < PRINCIPALS;
    }

    private static boolean isObject(int o) {
        return o >= 0 && o < OBJECTS;
    }

    /** What an issuer signed. Numbers that its kind has not are 0. */
    private static final class Credential {
        private static final int NUMBERS = 4;

        /** For each kind, how many values each number may have; 0 where the kind has no such number. */
        private static final int[] LIMITS = {
            PRINCIPALS, RIGHTS, OBJECTS, 0,
            PRINCIPALS, 0, 0, 0,
            PRINCIPALS, RIGHTS, OBJECTS, DEPTHS,
            RIGHTS, RIGHTS, 0, 0,
        };

        private final int issuer;
        private final int kind;
        private final int[] numbers = new int[NUMBERS];
        private final int first;
        private final int last;
        private boolean revoked;

        private Credential(int issuer, int kind, int[] given, int first, int last) {
            this.issuer = issuer;
            this.kind = kind;
            this.first = first;
            this.last = last;
            for (int i = 0; i < NUMBERS; i++) {
                numbers[i] = !isKind(kind) || limit(kind, i) > 0 ? given[i] : 0;
            }
        }

        private static boolean isKind(int kind) {
            return kind >= 0 && kind < KINDS;
        }

        private static int limit(int kind, int i) {
            return LIMITS[NUMBERS * kind + i];
        }

        private boolean isWellFormed() {
            if (!isPrincipal(issuer) || !isKind(kind)) {
                return false;
            }
            for (int i = 0; i < NUMBERS; i++) {
                int limit = limit(kind, i);
                if (limit > 0 && (numbers[i] < 0 || numbers[i] >= limit)) {
                    return false;
                }
            }
            return true;
        }

        private boolean isValidAt(int time) {
            return !revoked && first <= time && time <= last;
        }

        private int mark() {
            int mark = mix(mix(0, issuer), kind);
            for (int i = 0; i < NUMBERS; i++) {
                mark = mix(mark, numbers[i]);
            }
            return mix(mix(mark, first), last);
        }

        private static int mix(int mark, int number) {
            int mixed = (mark ^ number) * 1540483477;
            return mixed ^ (mixed >>> 15);
        }
    }

    /** The credentials that were taken, numbered from 1, and the time that makes them valid. */
    private static final class Credentials {
        private final ArrayList<Credential> taken = new ArrayList<>();
        private int time;

        private int count() {
            return taken.size();
        }

        private int take(Credential credential) {
            taken.add(credential);
            return taken.size();
        }

        private int letTimeGoOn(int n) {
            time += n;
            return time;
        }

        /** The credential with this number; null when there is none. */
        private Credential find(int number) {
            return number >= 1 && number <= taken.size() ? taken.get(number - 1) : null;
        }

        /** The credential with this number if it is valid now, otherwise null. */
        private Credential findValid(int number) {
            Credential found = find(number);
            return found != null && found.isValidAt(time) ? found : null;
        }
    }

    /** A row of steps; whether they prove anything is the checker's concern. */
    private static final class Proof {
        private final int[] rules = new int[MOST_STEPS];
        private final int[] xs = new int[MOST_STEPS];
        private final int[] ys = new int[MOST_STEPS];
        private int length;

        private int length() {
            return length;
        }

        private boolean hasStep(int k) {
            return k >= 0 && k < length;
        }

        private int ruleAt(int k) {
            return rules[k];
        }

        private int xAt(int k) {
            return xs[k];
        }

        private int yAt(int k) {
            return ys[k];
        }

        /** The new step's number; -1 when the row is full. */
        private int append(int rule, int x, int y) {
            if (length >= MOST_STEPS) {
                return -1;
            }
            rules[length] = rule;
            xs[length] = x;
            ys[length] = y;
            length++;
            return length - 1;
        }

        private int makeEmpty() {
            int had = length;
            length = 0;
            return had;
        }

        private void become(Proof other) {
            System.arraycopy(other.rules, 0, rules, 0, other.length);
            System.arraycopy(other.xs, 0, xs, 0, other.length);
            System.arraycopy(other.ys, 0, ys, 0, other.length);
            length = other.length;
        }
    }

    /**
     * Finds facts round by round. Within a round the ways are tried from the best to the worst, so
     * the first way that reaches a fact is its reason.
     */
    private static final class Prover {
        private static final int FIRST_MAY = PRINCIPALS * PRINCIPALS;
        private static final int FIRST_TRUSTS = FIRST_MAY + PRINCIPALS * PRINCIPALS * RIGHTS;
        private static final int FACTS = FIRST_TRUSTS + PRINCIPALS * PRINCIPALS * RIGHTS * DEPTHS;

        private final Credentials held;
        private final Proof written = new Proof();
        /** The round in which each fact was found; 0 when it was not. */
        private final int[] roundOf = new int[FACTS];
        private final int[] ruleOf = new int[FACTS];
        /** The first part of each fact's reason: a credential with rules 1 and 7, otherwise a fact. */
        private final int[] firstOf = new int[FACTS];
        private final int[] secondOf = new int[FACTS];
        private final int[] stepOf = new int[FACTS];
        private int round;
        private boolean foundSome;

        private Prover(Credentials held) {
            this.held = held;
        }

        private Proof written() {
            return written;
        }

        /** The length of the proof of MAY(a, p, r, o), which is then in written; or why there is none. */
        private int writeProof(int a, int p, int r, int o) {
            int goal = may(a, p, r);
            if (!finds(goal, o)) {
                return NOT_FOUND;
            }
            written.makeEmpty();
            Arrays.fill(stepOf, -1);
            return writesStep(goal, 1) ? written.length() : TOO_LONG;
        }

        private boolean finds(int goal, int o) {
            Arrays.fill(roundOf, 0);
            round = 1;
            foundSome = false;
            findWhatIsSaid(o);
            while (roundOf[goal] == 0 && foundSome && round <= FACTS) {
                round++;
                foundSome = false;
                findWhatFollows();
            }
            return roundOf[goal] != 0;
        }

        /** The order keeps to the rules' numbers: a rule of a lesser number has the first say. */
        private void findWhatFollows() {
            findMayByVoice();
            findMayByTrust();
            findTrustByTrust();
            findTrustByVoice();
            findVoiceByVoice();
            findImplied();
        }

        private void findWhatIsSaid(int o) {
            for (int number = 1; number <= held.count(); number++) {
                Credential credential = held.findValid(number);
                int fact = credential == null ? -1 : factSaidBy(credential, o);
                if (fact >= 0) {
                    reach(fact, SAID, number, 0);
                }
            }
        }

        /** The number of the fact; -1 when it says none, or one of another object. */
        private static int factSaidBy(Credential credential, int o) {
            int[] n = credential.numbers;
            switch (credential.kind) {
                case GRANT: return n[2] == o ? may(credential.issuer, n[0], n[1]) : -1;
                case VOICE: return speaks(n[0], credential.issuer);
                case TRUST: return n[2] == o ? trusts(credential.issuer, n[0], n[1], n[3]) : -1;
                default: return -1;
            }
        }

        private void findMayByVoice() {
            for (int b = 0; b < PRINCIPALS; b++) {
                for (int a = 0; a < PRINCIPALS; a++) {
                    int voice = speaks(b, a);
                    if (isKnown(voice)) {
                        for (int r = 0; r < RIGHTS; r++) {
                            handOnMay(MAY_BY_VOICE, voice, a, b, r);
                        }
                    }
                }
            }
        }

        private void findMayByTrust() {
            for (int b = 0; b < PRINCIPALS; b++) {
                for (int a = 0; a < PRINCIPALS; a++) {
                    for (int r = 0; r < RIGHTS; r++) {
                        for (int d = 0; d < DEPTHS; d++) {
                            int trust = trusts(a, b, r, d);
                            if (isKnown(trust)) {
                                handOnMay(MAY_BY_TRUST, trust, a, b, r);
                            }
                        }
                    }
                }
            }
        }

        /** What b says of right r, a says too, by a fact that links a to b. */
        private void handOnMay(int rule, int link, int a, int b, int r) {
            for (int x = 0; x < PRINCIPALS; x++) {
                int said = may(b, x, r);
                if (isKnown(said)) {
                    reach(may(a, x, r), rule, link, said);
                }
            }
        }

        private void findTrustByTrust() {
            for (int b = 0; b < PRINCIPALS; b++) {
                for (int a = 0; a < PRINCIPALS; a++) {
                    for (int r = 0; r < RIGHTS; r++) {
                        for (int d = 1; d < DEPTHS; d++) {
                            int trust = trusts(a, b, r, d);
                            if (isKnown(trust)) {
                                handOnTrust(TRUST_BY_TRUST, trust, a, b, r, d - 1);
                            }
                        }
                    }
                }
            }
        }

        private void findTrustByVoice() {
            for (int b = 0; b < PRINCIPALS; b++) {
                for (int a = 0; a < PRINCIPALS; a++) {
                    int voice = speaks(b, a);
                    if (isKnown(voice)) {
                        for (int r = 0; r < RIGHTS; r++) {
                            handOnTrust(TRUST_BY_VOICE, voice, a, b, r, DEPTHS - 1);
                        }
                    }
                }
            }
        }

        /** Whom b trusts with r, a trusts too, at most deepest deep, by a fact that links a to b. */
        private void handOnTrust(int rule, int link, int a, int b, int r, int deepest) {
            for (int c = 0; c < PRINCIPALS; c++) {
                for (int e = 0; e < DEPTHS; e++) {
                    int trust = trusts(b, c, r, e);
                    if (isKnown(trust)) {
                        reach(trusts(a, c, r, Math.min(deepest, e)), rule, link, trust);
                    }
                }
            }
        }

        private void findVoiceByVoice() {
            for (int b = 0; b < PRINCIPALS; b++) {
                for (int c = 0; c < PRINCIPALS; c++) {
                    if (isKnown(speaks(c, b))) {
                        handOnVoice(c, b);
                    }
                }
            }
        }

        /** For whom b speaks, c speaks too. */
        private void handOnVoice(int c, int b) {
            for (int a = 0; a < PRINCIPALS; a++) {
                int upper = speaks(b, a);
                if (isKnown(upper)) {
                    reach(speaks(c, a), VOICE_BY_VOICE, speaks(c, b), upper);
                }
            }
        }

        private void findImplied() {
            for (int number = 1; number <= held.count(); number++) {
                Credential credential = held.findValid(number);
                if (credential != null && credential.kind == IMPLY) {
                    applyImply(number, credential.issuer, credential.numbers[0], credential.numbers[1]);
                }
            }
        }

        private void applyImply(int number, int a, int r, int s) {
            for (int x = 0; x < PRINCIPALS; x++) {
                int said = may(a, x, r);
                if (isKnown(said)) {
                    reach(may(a, x, s), IMPLIED, number, said);
                }
            }
        }

        private void reach(int fact, int rule, int first, int second) {
            if (roundOf[fact] == 0) {
                roundOf[fact] = round;
                ruleOf[fact] = rule;
                firstOf[fact] = first;
                secondOf[fact] = second;
                foundSome = true;
            }
        }

        /** Only facts of earlier rounds may be built on. */
        private boolean isKnown(int fact) {
            return roundOf[fact] != 0 && roundOf[fact] < round;
        }

        /**
         * Writes the proof of a found fact behind what is written; false when it does not fit. Each
         * open level needs a step of its own, so what goes deeper than a proof is long can't fit.
         */
        private boolean writesStep(int fact, int depth) {
            if (stepOf[fact] >= 0) {
                return true;
            }
            if (depth > MOST_STEPS) {
                return false;
            }
            int rule = ruleOf[fact];
            int x = firstOf[fact];
            int y = secondOf[fact];
            if (rule != SAID && rule != IMPLIED) {
                if (!writesStep(x, depth + 1)) {
                    return false;
                }
                x = stepOf[x];
            }
            if (rule != SAID) {
                if (!writesStep(y, depth + 1)) {
                    return false;
                }
                y = stepOf[y];
            }
            stepOf[fact] = written.append(rule, x, y);
            return stepOf[fact] >= 0;
        }

        private static int speaks(int b, int a) {
            return PRINCIPALS * b + a;
        }

        private static int may(int a, int x, int r) {
            return FIRST_MAY + (PRINCIPALS * a + x) * RIGHTS + r;
        }

        private static int trusts(int a, int b, int r, int d) {
            return FIRST_TRUSTS + ((PRINCIPALS * a + b) * RIGHTS + r) * DEPTHS + d;
        }
    }

    /**
     * MAY(of, to, right, object), SPEAKS(to, of) or TRUSTS(of, to, right, object, depth); the kind
     * is that of the credential that would say it, and what the fact has not is 0.
     */
    private static final class Fact {
        private int kind;
        private int of;
        private int to;
        private int right;
        private int object;
        private int depth;

        private void becomeSaidBy(Credential credential) {
            kind = credential.kind;
            of = credential.issuer;
            to = credential.numbers[0];
            right = credential.numbers[1];
            object = credential.numbers[2];
            depth = credential.numbers[3];
        }

        private void become(Fact other) {
            kind = other.kind;
            of = other.of;
            to = other.to;
            right = other.right;
            object = other.object;
            depth = other.depth;
        }

        private boolean isMay(int a, int x, int r, int o) {
            return kind == GRANT && of == a && to == x && right == r && object == o;
        }

        private boolean isOfSameThing(Fact other) {
            return right == other.right && object == other.object;
        }
    }

    /** Checks proofs by the rules alone, step by step. */
    private static final class Checker {
        private final Credentials held;
        private final Fact[] facts = new Fact[MOST_STEPS];

        private Checker(Credentials held) {
            this.held = held;
            for (int k = 0; k < MOST_STEPS; k++) {
                facts[k] = new Fact();
            }
        }

        /** Whether the proof proves MAY(a, p, r, o). */
        private boolean accepts(Proof proof, int a, int p, int r, int o) {
            int length = proof.length();
            for (int k = 0; k < length; k++) {
                if (!follows(proof.ruleAt(k), proof.xAt(k), proof.yAt(k), k)) {
                    return false;
                }
            }
            return length > 0 && facts[length - 1].isMay(a, p, r, o);
        }

        /** Whether step k is as its rule asks; its fact is then in the row. */
        private boolean follows(int rule, int x, int y, int k) {
            if (rule == SAID) {
                return isSaid(held.findValid(x), facts[k]);
            }
            if (y < 0 || y >= k) {
                return false;
            }
            if (rule == IMPLIED) {
                return isImplied(held.findValid(x), facts[y], facts[k]);
            }
            return x >= 0 && x < k && isJoined(rule, facts[x], facts[y], facts[k]);
        }

        private static boolean isSaid(Credential credential, Fact result) {
            if (credential == null || credential.kind == IMPLY) {
                return false;
            }
            result.becomeSaidBy(credential);
            return true;
        }

        private static boolean isImplied(Credential credential, Fact base, Fact result) {
            if (credential == null || credential.kind != IMPLY || base.kind != GRANT) {
                return false;
            }
            if (base.of != credential.issuer || base.right != credential.numbers[0]) {
                return false;
            }
            result.become(base);
            result.right = credential.numbers[1];
            return true;
        }

        private static boolean isJoined(int rule, Fact x, Fact y, Fact result) {
            switch (rule) {
                case MAY_BY_VOICE:
                    return x.kind == VOICE && y.kind == GRANT && isHandedOn(x, y, result);
                case MAY_BY_TRUST:
                    return x.kind == TRUST && y.kind == GRANT && x.isOfSameThing(y) && isHandedOn(x, y, result);
                case TRUST_BY_TRUST:
                    return x.kind == TRUST && y.kind == TRUST && isTrustedDeeper(x, y, result);
                case TRUST_BY_VOICE:
                    return x.kind == VOICE && y.kind == TRUST && isHandedOn(x, y, result);
                case VOICE_BY_VOICE:
                    // This rule names the upper link last, the others name it first.
                    return x.kind == VOICE && y.kind == VOICE && isHandedOn(y, x, result);
                default:
                    return false;
            }
        }

        private static boolean isTrustedDeeper(Fact x, Fact y, Fact result) {
            if (x.depth <= 0 || !x.isOfSameThing(y) || !isHandedOn(x, y, result)) {
                return false;
            }
            result.depth = Math.min(x.depth - 1, y.depth);
            return true;
        }

        /** What the link's far end says, its near end says too. */
        private static boolean isHandedOn(Fact link, Fact said, Fact result) {
            if (link.to != said.of) {
                return false;
            }
            result.become(said);
            result.of = link.of;
            return true;
        }
    }

    /** Counts the grants and chains them. */
    private static final class AuditLog {
        private int count;
        private int link;

        private int count() {
            return count;
        }

        private int link() {
            return link;
        }

        private void addGrant(int p, int r, int o, int length) {
            count++;
            link = ((link ^ p) * 31 + 8 * r + o) * 31 + length;
        }
    }

    /** Lets some records be written, then fails one and is out. */
    private static final class Fuse {
        private static final int OUT = -1;

        private int left = OUT;

        private void light(int n) {
            left = n;
        }

        /** Whether the record that is about to be written is the one that fails. */
        private boolean burnsThrough() {
            if (left == OUT) {
                return false;
            }
            left--;
            return left == OUT;
        }
    }
}

import java.util.ArrayList;
import java.util.HashMap;
import java.util.List;
import java.util.Map;
import java.util.NoSuchElementException;

/**
 * The document told a second time, with maps and records and from the facts backwards: for each fact
 * that is not found it looks through the rules for a reason.
 */
final class Model {
    record Credential(int issuer, int kind, int[] n, int first, int last) {
    }

    record Step(int rule, int x, int y) {
    }

    /** MAY: who, whom, right, object. SPEAKS: whom (the speaker), who. TRUSTS: all. */
    record Fact(char kind, int who, int whom, int right, int object, int depth) {
    }

    /** A premise is a credential's number or a fact. */
    record Reason(int rule, int credential, Fact x, Fact y) {
    }

    private final int secret;
    private int[] numbers = new int[4];
    private final List<Credential> credentials = new ArrayList<>();
    private final List<Integer> revoked = new ArrayList<>();
    private final List<Step> draft = new ArrayList<>();
    private final Map<Integer, int[]> objects = new HashMap<>();
    private int time = 0;
    private Integer fuse = null;
    private int grants = 0;
    private int chain = 0;
    private final Map<Integer, Map<Fact, Reason>> found = new HashMap<>();
    private List<Integer> foundState = List.of();

    Model(int secret) {
        this.secret = secret;
    }

    static Fact may(int a, int x, int r, int o) {
        return new Fact('M', a, x, r, o, 0);
    }

    static Fact speaks(int b, int a) {
        return new Fact('S', a, b, 0, 0, 0);
    }

    static Fact trusts(int a, int b, int r, int o, int d) {
        return new Fact('T', a, b, r, o, d);
    }

    private static int numbersOf(int kind) {
        return kind == 0 ? 3 : kind == 1 ? 1 : kind == 3 ? 2 : 4;
    }

    /** Of issuer, kind, a, b, c, d, first, last. */
    static int seal(int secret, int[] all) {
        int mark = 0;
        for (int i = 0; i < 8; i++) {
            boolean has = i < 2 || i > 5 || i - 2 < numbersOf(all[1]);
            mark = (mark ^ (has ? all[i] : 0)) * 1540483477;
            mark = mark ^ (mark >>> 15);
        }
        return (mark ^ (secret + 97 * all[0])) * 668265263;
    }

    int seal(int issuer, int kind, int a, int b, int c, int d, int first, int last) {
        return seal(secret, new int[] {issuer, kind, a, b, c, d, first, last});
    }

    void set(int a, int b, int c, int d) {
        numbers = new int[] {a, b, c, d};
    }

    private static boolean in(int n, int limit) {
        return 0 <= n && n < limit;
    }

    private void writeRecord() {
        if (fuse == null) {
            return;
        }
        if (fuse == 0) {
            fuse = null;
            draft.clear();
            throw new IllegalStateException();
        }
        fuse = fuse - 1;
    }

    int submit(int issuer, int kind, int first, int last, int seal) {
        int[] n = numbers.clone();
        boolean fits = in(issuer, 6);
        switch (kind) {
            case 0: fits &= in(n[0], 6) && in(n[1], 4) && in(n[2], 6); break;
            case 1: fits &= in(n[0], 6); break;
            case 2: fits &= in(n[0], 6) && in(n[1], 4) && in(n[2], 6) && in(n[3], 4); break;
            case 3: fits &= in(n[0], 4) && in(n[1], 4); break;
            default: fits = false;
        }
        if (!fits) {
            throw new IllegalArgumentException();
        }
        if (seal != seal(issuer, kind, n[0], n[1], n[2], n[3], first, last)) {
            throw new UnsupportedOperationException();
        }
        if (credentials.size() == 24) {
            throw new IllegalStateException();
        }
        writeRecord();
        credentials.add(new Credential(issuer, kind, n, first, last));
        return credentials.size();
    }

    boolean revoke(int p, int number) {
        if (number < 1 || number > credentials.size()) {
            throw new NoSuchElementException();
        }
        if (credentials.get(number - 1).issuer != p) {
            throw new UnsupportedOperationException();
        }
        if (revoked.contains(number)) {
            return false;
        }
        writeRecord();
        return revoked.add(number);
    }

    int pass(int n) {
        if (n < 1 || n > 100) {
            return -1;
        }
        time += n;
        return time;
    }

    int step(int rule, int x, int y) {
        if (draft.size() == 40) {
            return -1;
        }
        draft.add(new Step(rule, x, y));
        return draft.size() - 1;
    }

    int clear() {
        int had = draft.size();
        draft.clear();
        return had;
    }

    int steps() {
        return draft.size();
    }

    int stepAt(int k, int w) {
        if (k < 0 || k >= draft.size()) {
            return -1;
        }
        Step step = draft.get(k);
        return w == 0 ? step.rule : w == 1 ? step.x : w == 2 ? step.y : -1;
    }

    boolean valid(int number) {
        if (number < 1 || number > credentials.size() || revoked.contains(number)) {
            return false;
        }
        Credential c = credentials.get(number - 1);
        return c.first <= time && time <= c.last;
    }

    /** What a credential says; null when it is not valid, or of kind 3. */
    private Fact saidBy(int number) {
        if (!valid(number)) {
            return null;
        }
        Credential c = credentials.get(number - 1);
        int[] n = c.n;
        return c.kind == 0 ? may(c.issuer, n[0], n[1], n[2]) : c.kind == 1 ? speaks(n[0], c.issuer)
                : c.kind == 2 ? trusts(c.issuer, n[0], n[1], n[2], n[3]) : null;
    }

    private static List<Fact> allFacts(int o) {
        List<Fact> all = new ArrayList<>();
        for (int a = 0; a < 6; a++) {
            for (int b = 0; b < 6; b++) {
                all.add(speaks(b, a));
                for (int r = 0; r < 4; r++) {
                    all.add(may(a, b, r, o));
                    for (int d = 0; d < 4; d++) {
                        all.add(trusts(a, b, r, o, d));
                    }
                }
            }
        }
        return all;
    }

    private Reason reasonOf(Fact fact, List<Fact> said, Map<Fact, Reason> known) {
        if (said.contains(fact)) {
            return new Reason(1, said.indexOf(fact) + 1, null, null);
        }
        for (int rule = 2; rule <= 6 && !known.isEmpty(); rule++) {
            for (int b = 0; b < 6; b++) {
                for (int d = 0; d < (rule == 3 || rule == 4 ? 4 : 1); d++) {
                    for (int e = 0; e < (rule == 4 ? 4 : 1); e++) {
                        Fact[] pair = premises(fact, rule, b, d, e, fact.object);
                        if (pair != null && known.containsKey(pair[0]) && known.containsKey(pair[1])) {
                            return new Reason(rule, 0, pair[0], pair[1]);
                        }
                    }
                }
            }
        }
        return impliedReasonOf(fact, known);
    }

    private Reason impliedReasonOf(Fact fact, Map<Fact, Reason> known) {
        for (int number = 1; number <= credentials.size() && fact.kind == 'M'; number++) {
            Credential c = credentials.get(number - 1);
            if (valid(number) && c.kind == 3 && c.issuer == fact.who && c.n[1] == fact.right) {
                Fact base = may(fact.who, fact.whom, c.n[0], fact.object);
                if (known.containsKey(base)) {
                    return new Reason(7, number, base, null);
                }
            }
        }
        return null;
    }

    /** The two facts that would give this one by the rule with this b, d and e; null if none can. */
    private static Fact[] premises(Fact f, int rule, int b, int d, int e, int o) {
        if (rule == 2 && f.kind == 'M') {
            return new Fact[] {speaks(b, f.who), may(b, f.whom, f.right, o)};
        }
        if (rule == 3 && f.kind == 'M') {
            return new Fact[] {trusts(f.who, b, f.right, o, d), may(b, f.whom, f.right, o)};
        }
        if (rule == 4 && f.kind == 'T' && d > 0 && Math.min(d - 1, e) == f.depth) {
            return new Fact[] {trusts(f.who, b, f.right, o, d), trusts(b, f.whom, f.right, o, e)};
        }
        if (rule == 5 && f.kind == 'T') {
            return new Fact[] {speaks(b, f.who), trusts(b, f.whom, f.right, o, f.depth)};
        }
        if (rule == 6 && f.kind == 'S') {
            return new Fact[] {speaks(f.whom, b), speaks(b, f.who)};
        }
        return null;
    }

    /** All that is found, with its reason; kept as long as the credentials stay as they are. */
    private Map<Fact, Reason> findAll(int o) {
        List<Integer> state = List.of(credentials.size(), revoked.size(), time);
        if (!state.equals(foundState)) {
            found.clear();
            foundState = state;
        }
        return found.computeIfAbsent(o, this::findAnew);
    }

    private Map<Fact, Reason> findAnew(int o) {
        List<Fact> said = new ArrayList<>();
        for (int number = 1; number <= credentials.size(); number++) {
            said.add(saidBy(number));
        }
        Map<Fact, Reason> known = new HashMap<>();
        List<Fact> open = allFacts(o);
        boolean more = true;
        while (more) {
            Map<Fact, Reason> fresh = new HashMap<>();
            for (Fact fact : open) {
                Reason reason = reasonOf(fact, said, known);
                if (reason != null) {
                    fresh.put(fact, reason);
                }
            }
            open.removeAll(fresh.keySet());
            known.putAll(fresh);
            more = !fresh.isEmpty();
        }
        return known;
    }

    private static void write(Fact fact, Map<Fact, Reason> known, List<Fact> proved, List<Step> proof) {
        if (proved.contains(fact)) {
            return;
        }
        Reason why = known.get(fact);
        if (why.x != null) {
            write(why.x, known, proved, proof);
        }
        if (why.y != null) {
            write(why.y, known, proved, proof);
        }
        int x = why.credential != 0 ? why.credential : proved.indexOf(why.x);
        int y = why.rule == 1 ? 0 : why.rule == 7 ? proved.indexOf(why.x) : proved.indexOf(why.y);
        proved.add(fact);
        proof.add(new Step(why.rule, x, y));
    }

    private boolean named(int p, int r, int o) {
        return in(p, 6) && in(r, 4) && in(o, 6);
    }

    private boolean open(int r, int o) {
        return objects.containsKey(o) ? r != 3 : r == 3;
    }

    private Fact goal(int p, int r, int o) {
        return may(r == 3 ? 0 : objects.get(o)[0], p, r, o);
    }

    /** The prover's proof of the goal; null when it is not found. */
    private List<Step> proofOf(int p, int r, int o) {
        Map<Fact, Reason> known = findAll(o);
        Fact goal = goal(p, r, o);
        if (!known.containsKey(goal)) {
            return null;
        }
        List<Step> proof = new ArrayList<>();
        write(goal, known, new ArrayList<>(), proof);
        return proof;
    }

    /** The goals p, r, o of one object that are found now. */
    List<int[]> goalsOf(int o) {
        List<int[]> goals = new ArrayList<>();
        Map<Fact, Reason> known = findAll(o);
        for (int p = 0; p < 6; p++) {
            for (int r = 0; r < 4; r++) {
                if (open(r, o) && known.containsKey(goal(p, r, o))) {
                    goals.add(new int[] {p, r, o});
                }
            }
        }
        return goals;
    }

    int prove(int p, int r, int o) {
        if (!named(p, r, o) || !open(r, o)) {
            return -1;
        }
        List<Step> proof = proofOf(p, r, o);
        if (proof == null) {
            return -2;
        }
        if (proof.size() > 40) {
            return -3;
        }
        draft.clear();
        draft.addAll(proof);
        return proof.size();
    }

    /** The fact of the draft's last step; null when a step is not as it should be. */
    Fact proved() {
        List<Fact> facts = new ArrayList<>();
        for (Step step : draft) {
            Fact fact = factOf(step, facts);
            if (fact == null) {
                return null;
            }
            facts.add(fact);
        }
        return facts.isEmpty() ? null : facts.get(facts.size() - 1);
    }

    /** The same, if this step stood behind the draft. */
    Fact provedWith(int rule, int x, int y) {
        draft.add(new Step(rule, x, y));
        Fact fact = proved();
        draft.remove(draft.size() - 1);
        return fact;
    }

    private Fact factOf(Step step, List<Fact> facts) {
        if (step.rule == 1) {
            return saidBy(step.x);
        }
        if (step.rule < 1 || step.rule > 7 || !in(step.y, facts.size())) {
            return null;
        }
        Fact y = facts.get(step.y);
        if (step.rule == 7) {
            Credential c = valid(step.x) ? credentials.get(step.x - 1) : null;
            boolean fits = c != null && c.kind == 3 && y.equals(may(c.issuer, y.whom, c.n[0], y.object));
            return fits ? may(y.who, y.whom, c.n[1], y.object) : null;
        }
        if (!in(step.x, facts.size())) {
            return null;
        }
        Fact x = facts.get(step.x);
        Fact result = step.rule <= 3 ? may(x.who, y.whom, y.right, y.object)
                : step.rule == 4 ? trusts(x.who, y.whom, y.right, y.object, Math.min(x.depth - 1, y.depth))
                : step.rule == 5 ? trusts(x.who, y.whom, y.right, y.object, y.depth)
                : speaks(x.whom, y.who);
        int b = step.rule == 6 ? x.who : x.whom;
        Fact[] pair = premises(result, step.rule, b, x.depth, y.depth, y.object);
        return pair != null && pair[0].equals(x) && pair[1].equals(y) ? result : null;
    }

    boolean check(int p, int r, int o) {
        return named(p, r, o) && open(r, o) && goal(p, r, o).equals(proved());
    }

    int request(int p, int r, int o, int v, boolean given) {
        if (!named(p, r, o)) {
            throw new IllegalArgumentException();
        }
        if (!open(r, o)) {
            throw new NoSuchElementException();
        }
        List<Step> proof;
        if (given) {
            proof = check(p, r, o) ? new ArrayList<>(draft) : null;
            draft.clear();
        } else {
            proof = proofOf(p, r, o);
        }
        if (proof == null || proof.size() > 40) {
            throw new UnsupportedOperationException();
        }
        writeRecord();
        grants++;
        chain = ((chain ^ p) * 31 + 8 * r + o) * 31 + proof.size();
        if (r == 3) {
            objects.put(o, new int[] {p, v});
            return 0;
        }
        int[] object = objects.get(o);
        int answer = r == 2 ? object[0] : object[1];
        if (r == 1) {
            object[1] = v;
        } else if (r == 2 && in(v, 6)) {
            object[0] = v;
        } else if (r == 2) {
            objects.remove(o);
        }
        return answer;
    }

    boolean fuse(int n) {
        if (!in(n, 51)) {
            return false;
        }
        fuse = n;
        return true;
    }

    int owner(int o) {
        return objects.containsKey(o) ? objects.get(o)[0] : -1;
    }

    /** The issuer of a credential; -1 when there is none. */
    int issuerOf(int number) {
        return number < 1 || number > credentials.size() ? -1 : credentials.get(number - 1).issuer;
    }

    int credentials() {
        return credentials.size();
    }

    int grants() {
        return grants;
    }

    int chain() {
        return chain;
    }
}

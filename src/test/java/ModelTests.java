import java.util.ArrayList;
import java.util.List;
import java.util.Random;

/** Made-up runs of calls, each answer of ProofGate beside that of Model. The seeds are fixed. */
public final class ModelTests {
    private static final int RUNS = 150;
    private static final int CALLS = 512;

    private final Random random;
    private final Model model;
    private final ProofGate gate;
    private final List<String> calls = new ArrayList<>();
    /** What a run plays with: few objects, rights and principals make the calls meet. */
    private final int objects;
    private final int rights;
    private final int issuers;
    private final int users;
    private final int[] weights = new int[4];
    private static int proofs = 0;
    private static int longProofs = 0;
    private static int longest = 0;
    private static int tooLong = 0;
    private static int checked = 0;
    private static int granted = 0;
    private static int crashed = 0;

    private ModelTests(long seed) {
        random = new Random(seed);
        int secret = random.nextInt();
        model = new Model(secret);
        gate = new ProofGate(secret);
        objects = 1 + random.nextInt(2);
        rights = random.nextInt(4);
        issuers = 2 + random.nextInt(5);
        users = 1 + random.nextInt(3);
        for (int i = 0; i < 4; i++) {
            weights[i] = 1 + random.nextInt(6);
        }
    }

    private String both(String call, Due.Call ofModel, Due.Call ofGate) {
        if (calls.size() >= CALLS || !Due.allWell()) {
            return "over";
        }
        String due = Due.outcome(ofModel);
        String got = Due.outcome(ofGate);
        calls.add(call + " = " + got);
        Due.is(call, got, due);
        if (!Due.allWell()) {
            System.out.println("in the run " + calls);
        }
        return due;
    }

    private static long bit(boolean b) {
        return b ? 1 : 0;
    }

    private boolean oneIn(int n) {
        return random.nextInt(n) == 0;
    }

    private int odd() {
        int[] odd = {-1, 4, 6, 7, Integer.MIN_VALUE, Integer.MAX_VALUE};
        return odd[random.nextInt(odd.length)];
    }

    private int below(int limit) {
        return oneIn(60) ? odd() : random.nextInt(limit);
    }

    private int object() {
        return oneIn(20) ? below(6) : random.nextInt(objects);
    }

    private int right() {
        return oneIn(4) ? below(4) : random.nextInt(2) == 0 ? 3 : rights;
    }

    /** Often the root or an owner: goals are theirs. */
    private int issuer() {
        if (oneIn(3)) {
            return Math.max(0, model.owner(random.nextInt(objects)));
        }
        return oneIn(15) ? below(6) : random.nextInt(issuers);
    }

    /** Some that issue and some that need not. */
    private int user() {
        return oneIn(10) ? below(6) : 6 - users + random.nextInt(users);
    }

    private int kind() {
        int all = weights[0] + weights[1] + weights[2] + weights[3];
        int at = random.nextInt(all);
        for (int kind = 0; kind < 4; kind++) {
            at -= weights[kind];
            if (at < 0) {
                return kind;
            }
        }
        return 0;
    }

    private void set(int a, int b, int c, int d) {
        both("set(" + a + ", " + b + ", " + c + ", " + d + ")", () -> {
            model.set(a, b, c, d);
            return 0;
        }, () -> {
            gate.set(a, b, c, d);
            return 0;
        });
    }

    private void submit() {
        int kind = oneIn(60) ? odd() : kind();
        int issuer = issuer();
        int a = kind == 3 ? right() : kind == 0 ? user() : oneIn(2) ? issuer() : Math.floorMod(issuer + 1, issuers);
        int b = kind == 3 ? below(4) : kind == 1 ? random.nextInt() : right();
        int c = kind == 0 || kind == 2 ? object() : random.nextInt();
        int d = kind == 2 ? below(4) : random.nextInt();
        submit(issuer, kind, a, b, c, d);
    }

    private void submit(int issuer, int kind, int a, int b, int c, int d) {
        int first = oneIn(8) ? random.nextInt(40) : 0;
        int last = oneIn(8) ? first + random.nextInt(60) - 1 : 5000;
        set(a, b, c, d);
        if (oneIn(4)) {
            both("seal(" + issuer + ", " + kind + ", ..)", () -> model.seal(issuer, kind, a, b, c, d, first, last),
                    () -> gate.seal(issuer, kind, a, b, c, d, first, last));
        }
        submit(issuer, kind, first, last, model.seal(issuer, kind, a, b, c, d, first, last) + (oneIn(40) ? 1 : 0));
    }

    private void submit(int issuer, int kind, int first, int last, int seal) {
        both("submit(" + issuer + ", " + kind + ", " + first + ", " + last + ", " + seal + ")",
                () -> model.submit(issuer, kind, first, last, seal),
                () -> gate.submit(issuer, kind, first, last, seal));
    }

    private void submitSurely(int issuer, int kind, int... n) {
        set(n[0], n[1], n[2], n[3]);
        submit(issuer, kind, 0, 5000, model.seal(issuer, kind, n[0], n[1], n[2], n[3], 0, 5000));
    }

    /** From the root back, what is wanted is had from another principal, or by another right. */
    private void submitLongWay(int user, int o, int length) {
        boolean[][] been = new boolean[4][6];
        int who = 0;
        int r = 3;
        for (int i = 0; i < length; i++) {
            been[r][who] = true;
            int next = random.nextInt(6);
            for (int tries = 0; tries < 6 && been[r][next]; tries++) {
                next = (next + 1) % 6;
            }
            if (been[r][next] || oneIn(12)) {
                int from = random.nextInt(4);
                for (int tries = 0; tries < 4 && been[from][who]; tries++) {
                    from = (from + 1) % 4;
                }
                submitSurely(who, 3, from, r, 0, 0);
                r = from;
            } else {
                submitSurely(who, oneIn(20) ? 1 : 2, next, r, o, oneIn(20) ? 1 : 0);
                who = next;
            }
        }
        submitSurely(who, 0, user, r, o, 0);
    }

    private void runLong() {
        int user = random.nextInt(6);
        submitLongWay(user, 2, 12 + random.nextInt(12));
        proveAll(2);
    }

    private void revoke() {
        int number = random.nextInt(26);
        int p = oneIn(3) ? below(6) : model.issuerOf(number);
        both("revoke(" + p + ", " + number + ")", () -> bit(model.revoke(p, number)),
                () -> bit(gate.revoke(p, number)));
    }

    private void pass() {
        int n = oneIn(5) ? random.nextInt(104) - 1 : random.nextInt(4);
        both("pass(" + n + ")", () -> model.pass(n), () -> gate.pass(n));
    }

    private void step(int rule, int x, int y) {
        both("step(" + rule + ", " + x + ", " + y + ")", () -> model.step(rule, x, y), () -> gate.step(rule, x, y));
    }

    private void clear() {
        both("clear()", model::clear, gate::clear);
    }

    private void lookAtDraft() {
        both("steps()", model::steps, gate::steps);
        for (int k = 0; k < model.steps(); k++) {
            for (int w = 0; w < 3; w++) {
                lookAt(k, w);
            }
        }
        lookAt(oneIn(2) ? -1 : model.steps(), 0);
        lookAt(0, oneIn(2) ? 3 : -1);
    }

    private void lookAt(int k, int w) {
        both("stepAt(" + k + ", " + w + ")", () -> model.stepAt(k, w), () -> gate.stepAt(k, w));
    }

    /** Mostly a goal that is found now, if there is one. */
    private int[] goal() {
        int o = object();
        if (o >= 0 && o < 6 && !oneIn(6)) {
            List<int[]> goals = model.goalsOf(o);
            if (!goals.isEmpty()) {
                return goals.get(random.nextInt(goals.size()));
            }
        }
        return new int[] {user(), model.owner(o) < 0 && !oneIn(8) ? 3 : right(), o};
    }

    private void prove(int p, int r, int o) {
        String length = both("prove(" + p + ", " + r + ", " + o + ")", () -> model.prove(p, r, o),
                () -> gate.prove(p, r, o));
        tooLong += length.equals("-3") ? 1 : 0;
        if (length.charAt(0) != '-' && !length.equals("over")) {
            proofs++;
            longProofs += length.length() > 1 ? 1 : 0;
            longest = Math.max(longest, Integer.parseInt(length));
            if (oneIn(2) || length.length() > 1) {
                lookAtDraft();
            }
            check(p, r, o);
        }
    }

    private void check(int p, int r, int o) {
        checked += both("check(" + p + ", " + r + ", " + o + ")", () -> bit(model.check(p, r, o)),
                () -> bit(gate.check(p, r, o))).equals("1") ? 1 : 0;
    }

    /** Checks the goal that the draft would prove, if it proves one. */
    private void checkWhatIsProved() {
        Model.Fact fact = model.proved();
        if (fact != null && fact.kind() == 'M' && !oneIn(4)) {
            check(fact.whom(), fact.right(), fact.object());
        } else {
            check(user(), right(), object());
        }
    }

    /** Puts steps behind the draft, mostly such as follow. */
    private void buildDraft() {
        if (oneIn(3)) {
            clear();
        }
        int wanted = 1 + random.nextInt(6);
        for (int i = 0; i < wanted; i++) {
            for (int tries = 0; tries < 60; tries++) {
                int rule = 1 + random.nextInt(7);
                int x = rule == 1 || rule == 7 ? 1 + random.nextInt(24) : random.nextInt(1 + model.steps());
                int y = random.nextInt(1 + model.steps());
                if (oneIn(300) || model.steps() < 40 && follows(rule, x, y)) {
                    step(rule, x, y);
                    break;
                }
            }
        }
        checkWhatIsProved();
    }

    private boolean follows(int rule, int x, int y) {
        return model.provedWith(rule, x, y) != null;
    }

    /** Writes the draft again with one number of one step another. */
    private void spoilDraft() {
        int n = model.steps();
        if (n == 0) {
            return;
        }
        int at = random.nextInt(n);
        int part = random.nextInt(3);
        int[][] steps = new int[n][3];
        for (int k = 0; k < n; k++) {
            for (int w = 0; w < 3; w++) {
                steps[k][w] = model.stepAt(k, w);
            }
        }
        steps[at][part] = oneIn(10) ? odd() : random.nextInt(part == 0 ? 8 : n + 2);
        clear();
        for (int[] s : steps) {
            step(s[0], s[1], s[2]);
        }
        checkWhatIsProved();
    }

    private void request() {
        boolean given = model.steps() > 0 && oneIn(2);
        Model.Fact fact = given ? model.proved() : null;
        boolean aimed = fact != null && fact.kind() == 'M' && !oneIn(5);
        int[] g = aimed ? new int[] {fact.whom(), fact.right(), fact.object()} : goal();
        int p = g[0];
        int r = g[1];
        int o = g[2];
        int v = oneIn(3) ? random.nextInt() : random.nextInt(7);
        String answer = both("request(" + p + ", " + r + ", " + o + ", " + v + ", " + given + ")",
                () -> model.request(p, r, o, v, given), () -> gate.request(p, r, o, v, given));
        granted += answer.startsWith("throws") || answer.equals("over") ? 0 : 1;
        crashed += answer.endsWith("IllegalStateException") ? 1 : 0;
        if (oneIn(2)) {
            lookAround();
        }
    }

    private void fuse() {
        int n = oneIn(8) ? random.nextInt(60) - 5 : random.nextInt(4);
        both("fuse(" + n + ")", () -> bit(model.fuse(n)), () -> bit(gate.fuse(n)));
    }

    private void lookAround() {
        int o = below(6);
        both("owner(" + o + ")", () -> model.owner(o), () -> gate.owner(o));
        both("credentials()", model::credentials, gate::credentials);
        int number = random.nextInt(26);
        both("valid(" + number + ")", () -> bit(model.valid(number)), () -> bit(gate.valid(number)));
        both("grants()", model::grants, gate::grants);
        both("chain()", model::chain, gate::chain);
        both("steps()", model::steps, gate::steps);
    }

    /** Many links about one object, then each of its goals. */
    private void runDense() {
        int owner = random.nextInt(6);
        int o = random.nextInt(6);
        int play = 1 + random.nextInt(4);
        submit(0, 0, owner, 3, o, 0);
        for (int i = 1; i < 24; i++) {
            int kind = kind();
            int r = 3 - random.nextInt(play);
            int s = 3 - random.nextInt(play);
            int a = kind == 3 ? s : kind == 0 ? 6 - users + random.nextInt(users) : random.nextInt(issuers);
            submit(random.nextInt(issuers), kind, a, r, o, random.nextInt(4));
        }
        proveAll(o);
        both("request(" + owner + ", 3, " + o + ", 1, false)", () -> model.request(owner, 3, o, 1, false),
                () -> gate.request(owner, 3, o, 1, false));
        proveAll(o);
    }

    private void proveAll(int o) {
        for (int p = 0; p < 6; p++) {
            for (int r = 0; r < 4; r++) {
                if (r < 3 || model.owner(o) < 0) {
                    prove(p, r, o);
                }
            }
        }
    }

    private void run() {
        submit(0, 0, user(), 3, random.nextInt(objects), 0);
        if (oneIn(2)) {
            submitLongWay(user(), random.nextInt(objects), 4 + random.nextInt(14));
        }
        int early = random.nextInt(18);
        for (int i = 0; i < early; i++) {
            submit();
        }
        while (calls.size() < CALLS && Due.allWell()) {
            int what = random.nextInt(100);
            if (what < 10) {
                submit();
            } else if (what < 13) {
                revoke();
            } else if (what < 17) {
                pass();
            } else if (what < 20) {
                fuse();
            } else if (what < 50) {
                int[] goal = goal();
                prove(goal[0], goal[1], goal[2]);
            } else if (what < 65) {
                buildDraft();
            } else if (what < 72) {
                spoilDraft();
            } else if (what < 95) {
                request();
            } else if (what < 97) {
                clear();
            } else {
                lookAround();
            }
        }
    }

    public static void main(String[] args) {
        int runs = args.length > 0 ? Integer.parseInt(args[0]) : RUNS;
        for (int seed = 1; seed <= runs && Due.allWell(); seed++) {
            new ModelTests(seed).run();
            new ModelTests(seed).runDense();
            new ModelTests(seed).runLong();
        }
        System.out.println(proofs + " proofs, " + longProofs + " of them of ten steps or more, the longest of " + longest
                + ", " + tooLong + " too long, " + checked + " checked, " + granted + " grants, " + crashed
                + " crashes in a request");
        // Runs in which little is proved would test little.
        boolean enough = proofs > 5 * runs && longProofs > runs && tooLong > 0 && granted > runs && crashed > 0;
        Due.is("runs prove enough", enough || runs < RUNS, true);
        Due.finish();
    }
}

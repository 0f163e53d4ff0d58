import java.util.Random;

/** All promises: long runs of mixed calls, each answer against the one of PlainModel. Seeds are fixed. */
public final class RandomRunsTest {
    private static final int RUNS = 6000;
    private static final int CALLS = 512;
    private static final int[] ODD = {Integer.MIN_VALUE, -9, -2, -1, 3, 4, 5, 8, 24, 25, 64, 512, Integer.MAX_VALUE};

    // Few paths, so that nodes meet their parents and children.
    private static final int[] COMMON = {1, 1, 1, 1, 1, 2, 9, 9, 9, 10, 73, 511};

    private final Due due = new Due("RandomRunsTest");
    private final int[] seen = new int[16];
    private Random random;
    private EpochTree x;
    private PlainModel m;
    private int calm;

    public static void main(String[] args) {
        RandomRunsTest test = new RandomRunsTest();
        for (int seed = 1; seed <= RUNS && test.due.wrong() == 0; seed++) {
            test.run(seed);
        }
        test.lookAtWhatWasSeen();
        test.due.end();
    }

    private void run(int seed) {
        random = new Random(seed);
        x = new EpochTree();
        m = new PlainModel();
        // How seldom a server stops: runs of all sorts, from restless ones to ones that fill their lists.
        calm = 4 << random.nextInt(7);
        for (int call = 1; call <= CALLS && due.wrong() == 0; call++) {
            String at = "seed " + seed + " call " + call + " ";
            if (random.nextInt(5) < 3) {
                act(at);
            } else {
                ask(at);
            }
            due.no(at + "changed an applied entry", m.appliedChanged);
        }
    }

    private int oddOr(int plain) {
        return random.nextInt(60) == 0 ? ODD[random.nextInt(ODD.length)] : plain;
    }

    private int server() {
        return oddOr(random.nextInt(3));
    }

    /** Mostly a server in one of these roles, if there is one, so that the runs get somewhere. */
    private int serverIn(int lowest, int highest) {
        int s = random.nextInt(3);
        for (int i = 0; i < 3 && random.nextInt(12) != 0; i++) {
            if (m.role(s) >= lowest && m.role(s) <= highest) {
                return oddOr(s);
            }
            s = (s + 1) % 3;
        }
        return server();
    }

    private boolean someoneLeads() {
        return m.role(0) >= 3 || m.role(1) >= 3 || m.role(2) >= 3;
    }

    private int path() {
        if (random.nextInt(12) == 0) {
            return oddOr(random.nextInt(513));
        }
        return COMMON[random.nextInt(COMMON.length)];
    }

    private void act(String at) {
        if (random.nextInt(calm) == 0) {
            stopOne(at, server());
            return;
        }
        int what = random.nextInt(24);
        if (what < 2) {
            int s = serverIn(0, 0);
            due.is(at + "restart(" + s + ")", bit(x.restart(s)), bit(m.restart(s)));
        } else if (what < 4) {
            if (!someoneLeads() || random.nextInt(25) == 0) {
                lead(at, serverIn(1, 1));
            }
        } else if (what < 7) {
            int s = serverIn(1, 1);
            int l = serverIn(3, 4);
            due.is(at + "follow(" + s + ", " + l + ")", bit(x.follow(s, l)), bit(m.follow(s, l)));
        } else if (what < 19) {
            read(at, serverIn(2, 2));
        } else if (what < 21) {
            submit(at, serverIn(4, 4));
        } else if (what < 23) {
            pass(at);
        } else {
            touch(at, serverIn(4, 4));
        }
    }

    private void lead(String at, int s) {
        due.is(at + "lead(" + s + ")", bit(x.lead(s)), bit(m.lead(s)));
    }

    private void read(String at, int s) {
        boolean up = random.nextInt(5) == 0 ? random.nextBoolean() : m.waiting(s, true) > random.nextInt(3);
        int want = up ? m.up(s) : m.down(s);
        seen[want]++;
        due.is(at + (up ? "up(" : "down(") + s + ")", up ? x.up(s) : x.down(s), want);
    }

    private void pass(String at) {
        int want = m.tick();
        seen[8] += want;
        due.is(at + "tick()", x.tick(), want);
    }

    private void touch(String at, int s) {
        int session = oddOr(random.nextInt(6));
        boolean want = m.touch(s, session);
        seen[9] += bit(want);
        due.is(at + "touch(" + s + ", " + session + ")", bit(x.touch(s, session)), bit(want));
    }

    private void stopOne(String at, int s) {
        if (random.nextBoolean()) {
            due.is(at + "quit(" + s + ")", bit(x.quit(s)), bit(m.quit(s)));
        } else {
            due.is(at + "crash(" + s + ")", bit(x.crash(s)), bit(m.crash(s)));
        }
    }

    private int someSession() {
        return 1 + Math.min(random.nextInt(4), random.nextInt(4));
    }

    private int someB(int kind) {
        if (kind == 1) {
            return random.nextInt(3) == 0 ? someSession() : 0;
        }
        return kind < 4 ? Math.max(-1, random.nextInt(6) - 3) : someSession();
    }

    private void submit(String at, int s) {
        int[] kinds = {1, 1, 1, 1, 1, 2, 3, 3, 4, 4, 5};
        int kind = oddOr(kinds[random.nextInt(kinds.length)]);
        int path = path();
        int a = oddOr(random.nextInt(100));
        int b = oddOr(someB(kind));
        int want = m.submit(s, kind, path, a, b);
        seen[want == -3 ? 10 : want == -2 ? 11 : want == -1 ? 12 : 13]++;
        due.is(at + "submit(" + s + ", " + kind + ", " + path + ", " + a + ", " + b + ")",
                x.submit(s, kind, path, a, b), want);
    }

    private void ask(String at) {
        int s = server();
        int k = oddOr(random.nextInt(26));
        int path = random.nextInt(8) == 0 ? 0 : path();
        int which = oddOr(random.nextInt(6));
        boolean up = random.nextBoolean();
        switch (random.nextInt(11)) {
            case 0 -> due.is(at + "role(" + s + ")", x.role(s), m.role(s));
            case 1 -> due.is(at + "promise(" + s + ")", x.promise(s), m.promise(s));
            case 2 -> due.is(at + "epoch(" + s + ")", x.epoch(s), m.epoch(s));
            case 3 -> due.is(at + "length(" + s + ")", x.length(s), m.length(s));
            case 4 -> due.is(at + "mark(" + s + ", " + k + ")", x.mark(s, k), m.mark(s, k));
            case 5 -> due.is(at + "applied(" + s + ")", x.applied(s), m.applied(s));
            case 6 -> askResult(at, s, k);
            case 7, 8 -> due.is(at + "node(" + s + ", " + path + ", " + which + ")",
                    x.node(s, path, which), m.node(s, path, which));
            case 9 -> due.is(at + "tree(" + s + ")", x.tree(s), m.tree(s));
            default -> due.is(at + "waiting(" + s + ", " + up + ")", x.waiting(s, up), m.waiting(s, up));
        }
    }

    private void askResult(String at, int s, int k) {
        int near = random.nextInt(4) == 0 ? k : Math.max(1, m.applied(s) - random.nextInt(4));
        int want = m.result(s, near);
        seen[14] += want == 3 || want == 4 ? 1 : 0;
        seen[15] += want == 5 || want == 6 ? 1 : 0;
        due.is(at + "result(" + s + ", " + near + ")", x.result(s, near), want);
    }

    /** Runs that never reach the rare cases would prove little. */
    private void lookAtWhatWasSeen() {
        for (int i = 0; i < seen.length; i++) {
            due.yes("case " + i + " was seen often enough", seen[i] >= 50);
        }
        System.out.println("RandomRunsTest saw " + java.util.Arrays.toString(seen));
    }

    private static int bit(boolean answer) {
        return answer ? 1 : 0;
    }
}

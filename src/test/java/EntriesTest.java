/** Promises 9, 15, 16, 17 and 18: making entries, their marks, and how many are applied with what result. */
public final class EntriesTest {
    private static final Due DUE = new Due("EntriesTest");

    public static void main(String[] args) {
        badServer();
        badKind();
        badPath();
        badB();
        whatIsNotLookedAt();
        idle();
        full();
        badBeforeIdleBeforeFull();
        answersTheLength();
        marks();
        marksOfASecondTerm();
        entriesWithoutFollowers();
        applied();
        results();
        DUE.end();
    }

    private static void badServer() {
        EpochTree x = Steps.established(0, 1);
        for (int s : Steps.NO_SERVERS) {
            DUE.is("submit to none", x.submit(s, 1, 1, 1, 0), EpochTree.BAD);
            DUE.is("length of none", x.length(s), EpochTree.BAD);
            DUE.is("mark of none", x.mark(s, 1), 0);
            DUE.is("applied of none", x.applied(s), EpochTree.BAD);
            DUE.is("result of none", x.result(s, 1), EpochTree.BAD);
        }
    }

    private static void badKind() {
        EpochTree x = Steps.established(0, 1);
        for (int kind : new int[] {0, 6, -1, Integer.MIN_VALUE, Integer.MAX_VALUE}) {
            DUE.is("kind " + kind, x.submit(0, kind, 1, 1, 1), EpochTree.BAD);
        }
        DUE.is("nothing was made", x.length(0), 0);
        DUE.is("nothing was sent", x.waiting(1, false), 0);
    }

    private static boolean isPath(int path) {
        return path > 0 && path < 512 && !Integer.toOctalString(path).contains("0");
    }

    private static void badPath() {
        for (int path = -70; path <= 600; path++) {
            EpochTree idle = new EpochTree();
            for (int kind = 1; kind <= 3; kind++) {
                DUE.is("path " + path, idle.submit(0, kind, path, 1, 0), isPath(path) ? EpochTree.IDLE : EpochTree.BAD);
            }
        }
        EpochTree x = Steps.established(0, 1);
        int[] bad = {0, 8, 16, 56, 63 + 1, 65, 71, 72, 80, 448, 449, 504, 512, 513, 585, 4095, -1, -9,
            Integer.MIN_VALUE, Integer.MAX_VALUE};
        for (int path : bad) {
            for (int kind = 1; kind <= 3; kind++) {
                DUE.is("path " + path, x.submit(0, kind, path, 1, 0), EpochTree.BAD);
            }
        }
        int[] good = {1, 7, 9, 15, 57, 63, 73, 79, 505, 511};
        for (int i = 0; i < good.length; i++) {
            DUE.is("path " + good[i], x.submit(0, 1 + i % 3, good[i], 1, 0), i + 1);
        }
    }

    private static void badB() {
        int[] edges = {Integer.MIN_VALUE, -2, -1, 0, 1, 4, 5, Integer.MAX_VALUE};
        boolean[] create = {false, false, false, true, true, true, false, false};
        boolean[] version = {false, false, true, true, true, true, true, true};
        boolean[] session = {false, false, false, false, true, true, false, false};
        boolean[][] fine = {null, create, version, version, session, session};
        EpochTree x = Steps.established(0, 1);
        int made = 0;
        for (int kind = 1; kind <= 5; kind++) {
            for (int i = 0; i < edges.length; i++) {
                made += fine[kind][i] ? 1 : 0;
                DUE.is("kind " + kind + " with b " + edges[i], x.submit(0, kind, 1, 1, edges[i]),
                        fine[kind][i] ? made : EpochTree.BAD);
            }
        }
        DUE.is("as many as were fine", x.length(0), made);
    }

    private static void whatIsNotLookedAt() {
        EpochTree x = Steps.established(0, 1);
        DUE.is("path of OPEN", x.submit(0, 4, -5, Integer.MIN_VALUE, 1), 1);
        DUE.is("path of CLOSE", x.submit(0, 5, 8, Integer.MAX_VALUE, 1), 2);
        DUE.is("a of DELETE", x.submit(0, 3, 1, Integer.MIN_VALUE, -1), 3);
        DUE.is("any a of CREATE", x.submit(0, 1, 1, Integer.MIN_VALUE, 0), 4);
        Steps.settle(x, 1);
        DUE.is("is its data", x.node(1, 1, 1), Integer.MIN_VALUE);
        DUE.is("OPEN", x.result(1, 1), 0);
        DUE.is("CLOSE", x.result(1, 2), 0);
    }

    private static void idle() {
        EpochTree x = new EpochTree();
        DUE.is("looking", x.submit(0, 1, 1, 1, 0), EpochTree.IDLE);
        x.crash(2);
        DUE.is("down", x.submit(2, 1, 1, 1, 0), EpochTree.IDLE);
        x.lead(0);
        DUE.is("leading", x.submit(0, 1, 1, 1, 0), EpochTree.IDLE);
        x.follow(1, 0);
        for (int i = 0; i < 2; i++) {
            x.up(1);
            x.down(1);
            DUE.is("leading still", x.submit(0, 1, 1, 1, 0), EpochTree.IDLE);
        }
        x.up(1);
        DUE.is("following", x.submit(1, 1, 1, 1, 0), EpochTree.IDLE);
        DUE.is("established", x.submit(0, 1, 1, 1, 0), 1);
        x.quit(0);
        DUE.is("no leader any more", x.submit(0, 1, 1, 1, 0), EpochTree.IDLE);
        DUE.is("the length stays", x.length(0), 1);
    }

    private static EpochTree filled() {
        EpochTree x = Steps.established(0, 1);
        for (int i = 1; i <= 24; i++) {
            DUE.is("entry " + i, x.submit(0, 2, 1, i, -1), i);
        }
        return x;
    }

    private static void full() {
        EpochTree x = filled();
        DUE.is("entry 25", x.submit(0, 2, 1, 25, -1), EpochTree.FULL);
        DUE.is("24 entries", x.length(0), 24);
        DUE.is("24 messages", x.waiting(1, false), 24);
        DUE.is("the last mark", x.mark(0, 24), 1024);
        DUE.is("no mark 25", x.mark(0, 25), 0);
        Steps.settle(x, 1);
        DUE.is("full when applied too", x.submit(0, 4, 1, 25, 1), EpochTree.FULL);
        DUE.is("all applied", x.applied(1), 24);
        DUE.is("the last result", x.result(1, 24), 1);
        DUE.is("no result 25", x.result(1, 25), EpochTree.BAD);
        Steps.join(x, 2, 0);
        DUE.is("a full list for a new follower", x.length(2), 24);
        DUE.is("which applies it all", x.applied(2), 24);
    }

    private static void badBeforeIdleBeforeFull() {
        EpochTree x = filled();
        DUE.is("BAD before FULL", x.submit(0, 1, 8, 1, 0), EpochTree.BAD);
        DUE.is("BAD before IDLE", x.submit(1, 1, 1, 1, 5), EpochTree.BAD);
        Steps.settle(x, 1);
        DUE.is("IDLE before FULL", x.submit(1, 1, 1, 1, 0), EpochTree.IDLE);
    }

    private static void answersTheLength() {
        EpochTree x = Steps.established(0, 1);
        DUE.is("first", x.submit(0, 4, 0, 0, 1), 1);
        DUE.is("second", x.submit(0, 4, 0, 0, 1), 2);
        x.quit(0);
        x.lead(0);
        Steps.join(x, 2, 0);
        DUE.is("goes on in a new epoch", x.submit(0, 4, 0, 0, 1), 3);
        DUE.is("length", x.length(0), 3);
        DUE.is("length of the follower", x.length(2), 2);
        x.down(2);
        DUE.is("after PROPOSE", x.length(2), 3);
        DUE.is("length of the other one", x.length(1), 0);
    }

    private static void marks() {
        EpochTree x = Steps.established(0, 1);
        x.submit(0, 4, 0, 0, 1);
        x.submit(0, 4, 0, 0, 2);
        DUE.is("first mark", x.mark(0, 1), 1001);
        DUE.is("second mark", x.mark(0, 2), 1002);
        for (int k : new int[] {0, -1, 3, 24, 25, Integer.MIN_VALUE, Integer.MAX_VALUE}) {
            DUE.is("no mark " + k, x.mark(0, k), 0);
        }
        DUE.is("the follower has none yet", x.mark(1, 1), 0);
        x.down(1);
        DUE.is("then one", x.mark(1, 1), 1001);
        DUE.is("not two", x.mark(1, 2), 0);
        x.crash(0);
        DUE.is("marks last", x.mark(0, 2), 1002);
    }

    private static void marksOfASecondTerm() {
        EpochTree x = Steps.established(0, 1);
        Steps.resultOf(x, 0, 1, 4, 0, 0, 1);
        Steps.resultOf(x, 0, 1, 4, 0, 0, 2);
        x.quit(0);
        x.lead(0);
        Steps.join(x, 1, 0);
        x.submit(0, 4, 0, 0, 3);
        DUE.is("numbers begin anew", x.mark(0, 3), 2001);
        DUE.is("old marks stay", x.mark(0, 2), 1002);
        x.quit(1);
        Steps.join(x, 2, 0);
        x.submit(0, 4, 0, 0, 4);
        DUE.is("not with a new follower", x.mark(0, 4), 2002);
    }

    private static void entriesWithoutFollowers() {
        EpochTree x = Steps.established(0, 1);
        x.quit(1);
        DUE.is("made all the same", x.submit(0, 1, 1, 5, 0), 1);
        DUE.is("not applied", x.applied(0), 0);
        DUE.is("nothing in the tree", x.tree(0), 0);
        Steps.join(x, 2, 0);
        DUE.is("applied once another one has it", x.applied(0), 1);
    }

    private static void applied() {
        EpochTree x = Steps.established(0, 1);
        x.submit(0, 1, 1, 5, 0);
        DUE.is("not when made", x.applied(0), 0);
        x.down(1);
        DUE.is("not when proposed", x.applied(1), 0);
        DUE.is("nor then at the leader", x.applied(0), 0);
        x.up(1);
        DUE.is("when acknowledged", x.applied(0), 1);
        DUE.is("not yet at the follower", x.applied(1), 0);
        x.down(1);
        DUE.is("when committed", x.applied(1), 1);
        x.submit(0, 1, 2, 5, 0);
        x.submit(0, 1, 3, 5, 0);
        DUE.is("stays", x.applied(0), 1);
        x.crash(0);
        DUE.is("lost in a crash", x.applied(0), 0);
        DUE.is("kept by the other one", x.applied(1), 1);
    }

    private static void results() {
        EpochTree x = Steps.established(0, 1);
        x.submit(0, 2, 1, 5, -1);
        x.submit(0, 1, 1, 5, 0);
        x.submit(0, 1, 1, 6, 0);
        DUE.is("no result before", x.result(0, 1), EpochTree.BAD);
        x.down(1);
        x.up(1);
        DUE.is("result 1 at the leader", x.result(0, 1), 1);
        DUE.is("no result 2 yet", x.result(0, 2), EpochTree.BAD);
        DUE.is("none at the follower", x.result(1, 1), EpochTree.BAD);
        Steps.settle(x, 1);
        for (int s = 0; s < 2; s++) {
            DUE.is("result 1", x.result(s, 1), 1);
            DUE.is("result 2", x.result(s, 2), 0);
            DUE.is("result 3", x.result(s, 3), 2);
            for (int k : new int[] {0, -1, 4, 24, 25, Integer.MIN_VALUE, Integer.MAX_VALUE}) {
                DUE.is("no result " + k, x.result(s, k), EpochTree.BAD);
            }
        }
        DUE.is("no result at the third server", x.result(2, 1), EpochTree.BAD);
        x.crash(0);
        DUE.is("no result after a crash", x.result(0, 1), EpochTree.BAD);
    }
}

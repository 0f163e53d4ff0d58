/** Entries and their marks, the constants, and the promises 9 and 15 to 18. */
final class EntrySentences {
    private static final int[] NONE = Steps.NO_SERVERS;

    private EntrySentences() {
    }

    static void tests(Sentences s) {
        terms(s);
        constants(s);
        submit(s);
        submitRefused(s);
        length(s);
        mark(s);
        applied(s);
        result(s);
    }

    private static void terms(Sentences s) {
        s.under("Terms");
        s.test("of at most 24 ENTRIES.", EntrySentences::atMost24);
        s.test("An entry is a change with a MARK: 1000 times the epoch of the leader that made it",
                EntrySentences::markHasEpoch);
        s.test("and its number (1, 2, ..)", EntrySentences::numbersFrom1);
        s.test("among the entries that this leader made since it began to lead.",
                EntrySentences::numbersBeginAnew);
        s.test("An established leader that MAKES an entry appends it to its own list",
                EntrySentences::makesAtTheEnd);
        s.test("and sends PROPOSE with it on every tied link.", EntrySentences::proposes);
    }

    private static void atMost24(Due due) {
        EpochTree x = Steps.established(0, 1);
        Steps.resultOf(x, 0, 1, 4, 0, 0, 1);
        Steps.fillTo(x, 0, 23);
        due.is("the 24th", x.submit(0, 4, 0, 0, 2), 24);
        due.is("no 25th by submit", x.submit(0, 4, 0, 0, 3), EpochTree.FULL);
        x.tick();
        x.tick();
        due.is("no 25th by a tick", x.tick(), 0);
        due.is("24 at the leader", x.length(0), 24);
        Steps.settle(x, 1);
        due.is("24 at the follower", x.length(1), 24);
        due.is("the last one is applied", x.result(1, 24), 0);
    }

    private static void markHasEpoch(Due due) {
        EpochTree x = new EpochTree();
        Steps.chooseEpochs(x, 0, 1, 11);
        x.lead(0);
        Steps.join(x, 1, 0);
        x.submit(0, 4, 0, 0, 1);
        due.is("made in epoch 12", x.mark(0, 1), 12001);
        Steps.settle(x, 1);
        x.quit(0);
        x.lead(1);
        Steps.join(x, 0, 1);
        x.submit(1, 4, 0, 0, 2);
        due.is("the old mark stays", x.mark(1, 1), 12001);
        due.is("made in epoch 13", x.mark(1, 2), 13001);
    }

    private static void numbersFrom1(Due due) {
        EpochTree x = Steps.established(2, 1);
        for (int k = 1; k <= 24; k++) {
            x.submit(2, 4, 0, 0, 1);
            due.is("mark " + k, x.mark(2, k), 1000 + k);
        }
    }

    private static void numbersBeginAnew(Due due) {
        EpochTree x = Steps.established(0, 1);
        Steps.fillTo(x, 0, 3);
        Steps.settle(x, 1);
        x.quit(1);
        Steps.join(x, 2, 0);
        x.submit(0, 4, 0, 0, 1);
        due.is("other followers change nothing", x.mark(0, 4), 1004);
        x.submit(0, 7, 0, 0, 1);
        x.submit(0, 4, 0, 0, 1);
        due.is("nor does a refused submit", x.mark(0, 5), 1005);
        x.quit(0);
        x.lead(0);
        Steps.join(x, 1, 0);
        x.submit(0, 4, 0, 0, 1);
        due.is("1 again when it leads anew", x.mark(0, 6), 2001);
    }

    private static void makesAtTheEnd(Due due) {
        EpochTree x = Steps.established(0, 1);
        x.quit(1);
        x.submit(0, 1, 1, 5, 0);
        x.submit(0, 4, 0, 0, 1);
        due.is("also without a follower", x.length(0), 2);
        due.is("the first one stays the first", x.mark(0, 1), 1001);
        due.is("the second one comes behind it", x.mark(0, 2), 1002);
        due.is("it is not applied by that", x.applied(0), 0);
    }

    private static void proposes(Due due) {
        EpochTree x = Steps.established(0, 1);
        x.follow(2, 0);
        x.submit(0, 4, 0, 0, 1);
        due.is("on the tied link", x.waiting(1, false), 1);
        due.is("not on the other one", x.waiting(2, false), 0);
        due.is("it is PROPOSE", x.down(1), 6);
        due.is("with the entry", x.mark(1, 1), 1001);
        Steps.settle(x, 1);
        due.is("and its change", x.tree(1), 64 * 2);
        Steps.settle(x, 2);
        x.submit(0, 4, 0, 0, 2);
        due.is("on both tied links: 1", x.waiting(1, false), 1);
        due.is("on both tied links: 2", x.waiting(2, false), 1);
        x.tick();
        x.tick();
        x.tick();
        due.is("also when a tick makes it: 1", x.waiting(1, false), 2);
        due.is("also when a tick makes it: 2", x.waiting(2, false), 2);
    }

    private static void constants(Sentences s) {
        s.under("Terms");
        s.noTest("The constants:");
        s.test("`BAD = -1`: A number is out of its range.", due -> {
            due.is("BAD", EpochTree.BAD, -1);
            due.is("kind out of range", Steps.established(0, 1).submit(0, 6, 1, 0, 1), -1);
        });
        s.test("`IDLE = -2`: The server is not an established leader.", due -> {
            due.is("IDLE", EpochTree.IDLE, -2);
            due.is("no leader", Steps.established(0, 1).submit(1, 1, 1, 0, 0), -2);
        });
        s.test("`FULL = -3`: The list has 24 entries.", due -> {
            due.is("FULL", EpochTree.FULL, -3);
            EpochTree x = Steps.established(0, 1);
            Steps.fillTo(x, 0, 24);
            due.is("24 entries", x.submit(0, 1, 1, 0, 0), -3);
        });
    }

    private static void submit(Sentences s) {
        s.under("Promise 9");
        s.test("An established leader makes an entry with a change: kind 1 CREATE, 2 SET, 3 DELETE with path, a and b as above",
                EntrySentences::pathKinds);
        s.test("4 OPEN, 5 CLOSE with b", EntrySentences::sessionKinds);
        s.test("(path is not looked at).", EntrySentences::pathNotLookedAt);
        s.test("a is not looked at for 3, 4, 5.", EntrySentences::aNotLookedAt);
        s.test("Answers the number of entries of its list then.", EntrySentences::answersLength);
    }

    private static void pathKinds(Due due) {
        EpochTree x = Steps.established(0, 1);
        Steps.resultOf(x, 0, 1, 4, 0, 0, 3);
        due.is("CREATE", Steps.resultOf(x, 0, 1, 1, 2, 5, 3), 0);
        due.is("its path and a", x.node(0, 2, 1), 5);
        due.is("its b", x.node(0, 2, 4), 3);
        due.is("SET", Steps.resultOf(x, 0, 1, 2, 2, 6, 0), 0);
        due.is("its a", x.node(0, 2, 1), 6);
        due.is("its b is a version", Steps.resultOf(x, 0, 1, 2, 2, 7, 0), 5);
        due.is("DELETE's b is a version", Steps.resultOf(x, 0, 1, 3, 2, 0, 0), 5);
        due.is("DELETE", Steps.resultOf(x, 0, 1, 3, 2, 0, 1), 0);
        due.is("its path", x.node(0, 2, 0), 0);
    }

    private static void sessionKinds(Due due) {
        EpochTree x = Steps.established(0, 1);
        for (int session = 1; session <= 4; session++) {
            due.is("OPEN " + session, Steps.resultOf(x, 0, 1, 4, 0, 0, session), 0);
            due.is("it is open", x.tree(0), 64 << session);
            due.is("CLOSE " + session, Steps.resultOf(x, 0, 1, 5, 0, 0, session), 0);
            due.is("it is not open", x.tree(0), 0);
        }
    }

    private static void pathNotLookedAt(Due due) {
        for (int path : new int[] {Integer.MIN_VALUE, -1, 0, 1, 8, 511, 512, Integer.MAX_VALUE}) {
            EpochTree x = Steps.established(0, 1);
            due.is("OPEN with path " + path, Steps.resultOf(x, 0, 1, 4, path, 0, 1), 0);
            due.is("CLOSE with path " + path, Steps.resultOf(x, 0, 1, 5, path, 0, 1), 0);
        }
    }

    private static void aNotLookedAt(Due due) {
        for (int a : new int[] {Integer.MIN_VALUE, -2, -1, 0, 1, 5, Integer.MAX_VALUE}) {
            EpochTree x = Steps.established(0, 1);
            Steps.resultOf(x, 0, 1, 1, 1, 9, 0);
            due.is("OPEN with a " + a, Steps.resultOf(x, 0, 1, 4, 0, a, 1), 0);
            due.is("CLOSE with a " + a, Steps.resultOf(x, 0, 1, 5, 0, a, 1), 0);
            due.is("DELETE with a " + a, Steps.resultOf(x, 0, 1, 3, 1, a, 0), 0);
        }
    }

    private static void answersLength(Due due) {
        EpochTree x = Steps.established(0, 1);
        for (int k = 1; k <= 22; k++) {
            due.is("entry " + k, x.submit(0, 2, 1, k, -1), k);
        }
        x.quit(0);
        x.lead(0);
        Steps.join(x, 2, 0);
        due.is("entries of older epochs count", x.submit(0, 2, 1, 0, -1), 23);
        due.is("entry 24", x.submit(0, 2, 1, 0, -1), 24);
    }

    private static void submitRefused(Sentences s) {
        s.under("Promise 9");
        s.test("BAD when there is no such server", due -> {
            for (int server : NONE) {
                due.is("server " + server, Steps.established(0, 1).submit(server, 1, 1, 0, 0), EpochTree.BAD);
            }
        });
        s.test("kind is not 1 .. 5", EntrySentences::badKind);
        s.test("path (for 1, 2, 3) is no path of a node", EntrySentences::badPath);
        s.test("b is not 0 .. 4 (for 1)", due -> bIsLookedAt(due, 1, 0, 4));
        s.test("below -1 (for 2 and 3)", due -> {
            bIsLookedAt(due, 2, -1, Integer.MAX_VALUE);
            bIsLookedAt(due, 3, -1, Integer.MAX_VALUE);
        });
        s.test("or not 1 .. 4 (for 4 and 5)", due -> {
            bIsLookedAt(due, 4, 1, 4);
            bIsLookedAt(due, 5, 1, 4);
        });
        s.test("else IDLE", EntrySentences::idle);
        s.test("else FULL.", EntrySentences::full);
        s.test("else IDLE; else FULL.", EntrySentences::orderOfRefusals);
    }

    private static void badKind(Due due) {
        EpochTree x = Steps.established(0, 1);
        for (int kind : new int[] {0, 6, -1, 7, Integer.MIN_VALUE, Integer.MAX_VALUE}) {
            due.is("kind " + kind, x.submit(0, kind, 1, 1, 1), EpochTree.BAD);
        }
        for (int kind = 1; kind <= 5; kind++) {
            due.is("kind " + kind, x.submit(0, kind, 1, 1, 1), kind);
        }
    }

    private static void badPath(Due due) {
        EpochTree x = Steps.established(0, 1);
        int[] bad = {0, -1, 8, 16, 56, 64, 65, 71, 72, 80, 448, 449, 504, 512, 585, Integer.MIN_VALUE, Integer.MAX_VALUE};
        for (int path : bad) {
            for (int kind = 1; kind <= 3; kind++) {
                due.is("kind " + kind + " path " + path, x.submit(0, kind, path, 0, 0), EpochTree.BAD);
            }
        }
        int[] good = {1, 7, 9, 63, 73, 511};
        for (int i = 0; i < good.length * 3; i++) {
            int kind = 1 + i % 3;
            due.is("kind " + kind + " path " + good[i / 3], x.submit(0, kind, good[i / 3], 0, 0), i + 1);
        }
    }

    /** For this kind b is fine from the lowest to the highest number, and BAD beyond them. */
    private static void bIsLookedAt(Due due, int kind, int lowest, int highest) {
        EpochTree x = Steps.established(0, 1);
        due.is("kind " + kind + ", one below", x.submit(0, kind, 1, 0, lowest - 1), EpochTree.BAD);
        due.is("kind " + kind + ", far below", x.submit(0, kind, 1, 0, Integer.MIN_VALUE), EpochTree.BAD);
        if (highest < Integer.MAX_VALUE) {
            due.is("kind " + kind + ", one above", x.submit(0, kind, 1, 0, highest + 1), EpochTree.BAD);
            due.is("kind " + kind + ", far above", x.submit(0, kind, 1, 0, Integer.MAX_VALUE), EpochTree.BAD);
        }
        due.is("nothing was made", x.length(0), 0);
        due.is("kind " + kind + ", the lowest", x.submit(0, kind, 1, 0, lowest), 1);
        due.is("kind " + kind + ", the highest", x.submit(0, kind, 1, 0, highest), 2);
    }

    private static void idle(Due due) {
        for (int role = 0; role <= 3; role++) {
            EpochTree x = Steps.inRole(role);
            due.is("role " + role, x.submit(0, 1, 1, 0, 0), EpochTree.IDLE);
            due.is("nothing is made", x.length(0), 0);
        }
        EpochTree x = Steps.established(0, 1);
        due.is("the follower of an established leader", x.submit(1, 4, 0, 0, 1), EpochTree.IDLE);
        due.is("the established leader", x.submit(0, 4, 0, 0, 1), 1);
        x.quit(0);
        due.is("established no more", x.submit(0, 4, 0, 0, 1), EpochTree.IDLE);
    }

    private static void full(Due due) {
        EpochTree x = Steps.established(0, 1);
        Steps.fillTo(x, 0, 23);
        due.is("23 entries", x.submit(0, 2, 1, 0, -1), 24);
        due.is("24 entries", x.submit(0, 2, 1, 0, -1), EpochTree.FULL);
        for (int kind = 1; kind <= 5; kind++) {
            due.is("kind " + kind, x.submit(0, kind, 1, 0, 1), EpochTree.FULL);
        }
        due.is("still 24", x.length(0), 24);
        due.is("24 PROPOSE", x.waiting(1, false), 24);
        x.quit(0);
        x.lead(0);
        Steps.join(x, 2, 0);
        due.is("full in the next epoch too", x.submit(0, 2, 1, 0, -1), EpochTree.FULL);
    }

    private static void orderOfRefusals(Due due) {
        EpochTree x = Steps.established(0, 1);
        Steps.fillTo(x, 0, 24);
        Steps.settle(x, 1);
        due.is("BAD kind before FULL", x.submit(0, 0, 1, 0, 0), EpochTree.BAD);
        due.is("BAD path before FULL", x.submit(0, 1, 8, 0, 0), EpochTree.BAD);
        due.is("BAD b before FULL", x.submit(0, 4, 1, 0, 0), EpochTree.BAD);
        due.is("BAD kind before IDLE", x.submit(1, 6, 1, 0, 1), EpochTree.BAD);
        due.is("BAD path before IDLE", x.submit(1, 2, 0, 0, 0), EpochTree.BAD);
        due.is("BAD b before IDLE", x.submit(1, 3, 1, 0, -2), EpochTree.BAD);
        due.is("IDLE before FULL", x.submit(1, 1, 1, 0, 0), EpochTree.IDLE);
    }

    private static void length(Sentences s) {
        s.under("Promise 15");
        s.test("How many entries the list of a server has", due -> {
            EpochTree x = Steps.established(0, 1);
            due.is("empty", x.length(0), 0);
            for (int k = 1; k <= 24; k++) {
                x.submit(0, 2, 1, 0, -1);
                due.is("the leader's", x.length(0), k);
            }
            x.down(1);
            due.is("the follower's", x.length(1), 1);
            due.is("the third one's", x.length(2), 0);
        });
        s.test("BAD when there is none.", due -> {
            for (int server : NONE) {
                due.is("length(" + server + ")", new EpochTree().length(server), EpochTree.BAD);
            }
        });
    }

    private static void mark(Sentences s) {
        s.under("Promise 16");
        s.test("The mark of entry k (from 1) of a server's list", due -> {
            EpochTree x = Steps.established(0, 1);
            Steps.fillTo(x, 0, 24);
            due.is("the first one", x.mark(0, 1), 1001);
            due.is("the last one", x.mark(0, 24), 1024);
        });
        s.test("0 when there is no such entry", due -> {
            EpochTree x = Steps.established(0, 1);
            due.is("empty list", x.mark(0, 1), 0);
            Steps.fillTo(x, 0, 2);
            for (int k : new int[] {0, -1, 3, 24, Integer.MIN_VALUE, Integer.MAX_VALUE}) {
                due.is("entry " + k, x.mark(0, k), 0);
            }
            due.is("the follower has none", x.mark(1, 1), 0);
            Steps.fillTo(x, 0, 24);
            due.is("entry 25 of a full list", x.mark(0, 25), 0);
            due.is("entry 0 of a full list", x.mark(0, 0), 0);
        });
        s.test("or server.", due -> {
            EpochTree x = Steps.established(0, 1);
            Steps.fillTo(x, 0, 24);
            for (int server : NONE) {
                due.is("mark(" + server + ", 1)", x.mark(server, 1), 0);
            }
        });
    }

    private static void applied(Sentences s) {
        s.under("Promise 17");
        s.test("How many entries a server has applied", due -> {
            EpochTree x = Steps.established(0, 1);
            due.is("none", x.applied(0), 0);
            Steps.fillTo(x, 0, 24);
            due.is("made, not applied", x.applied(0), 0);
            for (int k = 1; k <= 24; k++) {
                x.down(1);
            }
            for (int k = 1; k <= 24; k++) {
                x.up(1);
                due.is("the leader's", x.applied(0), k);
            }
            due.is("the follower's", x.applied(1), 0);
            x.down(1);
            due.is("the follower's then", x.applied(1), 1);
        });
        s.test("BAD when there is none.", due -> {
            for (int server : NONE) {
                due.is("applied(" + server + ")", new EpochTree().applied(server), EpochTree.BAD);
            }
        });
    }

    private static void result(Sentences s) {
        s.under("Promise 18");
        s.test("The result of entry k (from 1) of a server, when it has applied it", EntrySentences::resultOfEntries);
        s.test("BAD otherwise", EntrySentences::noResult);
        s.test("or when there is no such server.", due -> {
            EpochTree x = Steps.established(0, 1);
            Steps.fillTo(x, 0, 24);
            Steps.settle(x, 1);
            for (int server : NONE) {
                due.is("result(" + server + ", 1)", x.result(server, 1), EpochTree.BAD);
            }
        });
    }

    private static void resultOfEntries(Due due) {
        EpochTree x = Steps.established(0, 1);
        x.submit(0, 1, 9, 0, 0);
        x.submit(0, 1, 1, 0, 0);
        x.submit(0, 1, 1, 0, 0);
        Steps.fillTo(x, 0, 23);
        x.submit(0, 5, 0, 0, 1);
        Steps.settle(x, 1);
        for (int server = 0; server < 2; server++) {
            due.is("the first one", x.result(server, 1), 1);
            due.is("the second one", x.result(server, 2), 0);
            due.is("the third one", x.result(server, 3), 2);
            due.is("the last one", x.result(server, 24), 6);
        }
    }

    private static void noResult(Due due) {
        EpochTree x = Steps.established(0, 1);
        due.is("no entry", x.result(0, 1), EpochTree.BAD);
        Steps.fillTo(x, 0, 3);
        due.is("an entry, not applied", x.result(0, 1), EpochTree.BAD);
        x.down(1);
        x.down(1);
        x.up(1);
        x.up(1);
        due.is("the last applied one", x.result(0, 2), 1);
        due.is("the next one", x.result(0, 3), EpochTree.BAD);
        due.is("not applied by the follower", x.result(1, 1), EpochTree.BAD);
        for (int k : new int[] {0, -1, 4, 24, 25, Integer.MIN_VALUE, Integer.MAX_VALUE}) {
            due.is("entry " + k, x.result(0, k), EpochTree.BAD);
        }
        x.crash(0);
        due.is("lost in a crash", x.result(0, 1), EpochTree.BAD);
        EpochTree y = Steps.established(0, 1);
        Steps.fillTo(y, 0, 24);
        Steps.settle(y, 1);
        due.is("entry 25 when 24 are applied", y.result(0, 25), EpochTree.BAD);
        due.is("entry 0 when 24 are applied", y.result(0, 0), EpochTree.BAD);
    }
}

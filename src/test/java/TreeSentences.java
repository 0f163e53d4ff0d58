/** The tree, the changes and their results, and the promises 19 and 20. */
final class TreeSentences {
    private static final int CREATE = 1;
    private static final int SET = 2;
    private static final int DELETE = 3;
    private static final int OPEN = 4;
    private static final int CLOSE = 5;

    private TreeSentences() {
    }

    static void tests(Sentences s) {
        theTree(s);
        changes(s);
        create(s);
        set(s);
        delete(s);
        sessions(s);
        node(s);
        tree(s);
    }

    /** Three servers with one leader and one follower; every change is applied by both before the next one. */
    private static final class Run {
        final EpochTree x = Steps.established(0, 1);

        int change(int kind, int path, int a, int b) {
            return Steps.resultOf(x, 0, 1, kind, path, a, b);
        }

        Run create(int... paths) {
            for (int path : paths) {
                change(CREATE, path, path + 100, 0);
            }
            return this;
        }

        Run open(int... sessions) {
            for (int session : sessions) {
                change(OPEN, 0, 0, session);
            }
            return this;
        }

        void nodeIs(Due due, int path, int data, int version, int children, int owner) {
            due.is("node " + path + " is there", x.node(1, path, 0), 1);
            due.is("data of " + path, x.node(1, path, 1), data);
            due.is("version of " + path, x.node(1, path, 2), version);
            due.is("children of " + path, x.node(1, path, 3), children);
            due.is("owner of " + path, x.node(1, path, 4), owner);
        }

        void noNode(Due due, int path) {
            for (int which = 0; which <= 4; which++) {
                due.is("no node " + path + ", which " + which, x.node(1, path, which), 0);
            }
        }
    }

    private static void theTree(Sentences s) {
        s.under("Terms");
        s.test("THE TREE. A node has a PATH: a number 1 .. 511", TreeSentences::pathBounds);
        s.test("none of whose octal digits (up to the highest that is not 0) is 0", TreeSentences::octalDigits);
        s.test("its parent has the path / 8", TreeSentences::parents);
        s.test("the parent of 1 .. 7 is the ROOT, path 0", TreeSentences::childrenOfRoot);
        s.test("which is always there", TreeSentences::rootIsThere);
        s.test("has the data 0, the version 0 and no owner.", TreeSentences::rootHasNothing);
        s.test("A node has data (an int)", TreeSentences::dataIsAnInt);
        s.test("a version", TreeSentences::versions);
        s.test("and an OWNER: a session 1 .. 4, or 0 for none.", TreeSentences::owners);
        s.test("A SESSION is open or not (not in the empty tree).", TreeSentences::noSessionAtFirst);
    }

    private static void isPath(Due due, int path, boolean want) {
        int answer = new EpochTree().submit(0, CREATE, path, 0, 0);
        due.is("CREATE with path " + path + " while idle", answer, want ? EpochTree.IDLE : EpochTree.BAD);
    }

    private static void pathBounds(Due due) {
        isPath(due, 0, false);
        isPath(due, -1, false);
        isPath(due, Integer.MIN_VALUE, false);
        isPath(due, 1, true);
        isPath(due, 511, true);
        isPath(due, 512, false);
        // 1111, 7777 and the greatest int in octal have no digit 0, but they are too large.
        isPath(due, 585, false);
        isPath(due, 4095, false);
        isPath(due, Integer.MAX_VALUE, false);
    }

    private static void octalDigits(Due due) {
        for (int path = 1; path <= 511; path++) {
            isPath(due, path, !Integer.toOctalString(path).contains("0"));
        }
    }

    private static void parents(Due due) {
        int[][] families = {{1, 9, 73}, {7, 63, 511}, {1, 15, 121}, {7, 57, 457}};
        for (int[] family : families) {
            Run run = new Run();
            due.is("no parent of " + family[2], run.change(CREATE, family[2], 0, 0), 1);
            due.is("no parent of " + family[1], run.change(CREATE, family[1], 0, 0), 1);
            due.is("CREATE " + family[0], run.change(CREATE, family[0], 0, 0), 0);
            due.is("a grandparent is not enough", run.change(CREATE, family[2], 0, 0), 1);
            due.is("CREATE " + family[1], run.change(CREATE, family[1], 0, 0), 0);
            due.is("CREATE " + family[2], run.change(CREATE, family[2], 0, 0), 0);
        }
    }

    private static void childrenOfRoot(Due due) {
        Run run = new Run();
        for (int path = 1; path <= 7; path++) {
            due.is("CREATE " + path, run.change(CREATE, path, 0, 0), 0);
            due.is("children of the root", run.x.node(0, 0, 3), path);
        }
        due.is("9 is a child of 1", run.change(CREATE, 9, 0, 0), 0);
        due.is("not of the root", run.x.node(0, 0, 3), 7);
    }

    private static void rootIsThere(Due due) {
        EpochTree x = new EpochTree();
        due.is("in the empty tree", x.node(0, 0, 0), 1);
        x.crash(0);
        due.is("when down", x.node(0, 0, 0), 1);
        Run run = new Run().create(1);
        run.change(DELETE, 1, 0, -1);
        due.is("when its last child is gone", run.x.node(0, 0, 0), 1);
        run.open(1).change(CREATE, 1, 0, 1);
        run.change(CLOSE, 0, 0, 1);
        due.is("when a session is closed", run.x.node(0, 0, 0), 1);
    }

    private static void rootHasNothing(Due due) {
        Run run = new Run().open(2).create(1);
        run.change(CREATE, 2, 5, 2);
        run.change(SET, 1, 7, -1);
        run.nodeIs(due, 0, 0, 0, 2, 0);
    }

    private static void dataIsAnInt(Due due) {
        for (int data : new int[] {Integer.MIN_VALUE, -1, 0, 1, Integer.MAX_VALUE}) {
            Run run = new Run().create(2);
            run.change(CREATE, 1, data, 0);
            run.change(SET, 2, data, -1);
            due.is("created with", run.x.node(1, 1, 1), data);
            due.is("set to", run.x.node(1, 2, 1), data);
        }
    }

    private static void versions(Due due) {
        Run run = new Run().create(1, 2);
        for (int version = 0; version < 22; version++) {
            due.is("version", run.x.node(1, 1, 2), version);
            due.is("SET with it", run.change(SET, 1, 5, version), 0);
        }
        due.is("the last version", run.x.node(1, 1, 2), 22);
        due.is("each node has its own", run.x.node(1, 2, 2), 0);
    }

    private static void owners(Due due) {
        Run run = new Run().open(1, 2, 3, 4);
        for (int owner = 0; owner <= 4; owner++) {
            due.is("CREATE with owner " + owner, run.change(CREATE, owner + 1, 0, owner), 0);
            due.is("the owner", run.x.node(1, owner + 1, 4), owner);
        }
        due.is("no owner -1", run.x.submit(0, CREATE, 7, 0, -1), EpochTree.BAD);
        due.is("no owner 5", run.x.submit(0, CREATE, 7, 0, 5), EpochTree.BAD);
    }

    private static void noSessionAtFirst(Due due) {
        Run run = new Run();
        for (int session = 1; session <= 4; session++) {
            due.is("CLOSE " + session, run.change(CLOSE, 0, 0, session), 6);
            due.is("CREATE for " + session, run.change(CREATE, 1, 0, session), 6);
        }
        due.is("no session in the tree", run.x.tree(1), 0);
    }

    private static void changes(Sentences s) {
        s.test("CHANGES, and the RESULT that each has when it is applied", TreeSentences::resultWhenApplied);
        s.test("where several results would hold, the first one named counts", TreeSentences::firstResultCounts);
        s.test("with a result other than 0 nothing changes", TreeSentences::nothingChanges);
    }

    private static void resultWhenApplied(Due due) {
        EpochTree x = Steps.established(0, 1);
        x.submit(0, CREATE, 9, 0, 0);
        x.submit(0, CREATE, 1, 0, 0);
        x.submit(0, DELETE, 1, 0, 0);
        x.submit(0, CREATE, 9, 0, 0);
        Steps.settle(x, 1);
        int[] want = {1, 0, 0, 1};
        for (int k = 1; k <= 4; k++) {
            due.is("result " + k, x.result(0, k), want[k - 1]);
            due.is("the same at the follower", x.result(1, k), want[k - 1]);
        }
        due.is("the tree", x.tree(1), 0);
        // A new leader applies them all at once, in the same order.
        x.crash(0);
        x.crash(1);
        x.restart(1);
        x.lead(1);
        Steps.join(x, 2, 1);
        for (int k = 1; k <= 4; k++) {
            due.is("result " + k + " when all are applied at once", x.result(1, k), want[k - 1]);
        }
    }

    private static void firstResultCounts(Due due) {
        Run run = new Run().open(1).create(2, 2 * 8 + 2);
        run.change(CREATE, 1, 0, 1);
        due.is("CREATE: 6 before 2", run.change(CREATE, 1, 0, 3), 6);
        due.is("CREATE: 6 before 1", run.change(CREATE, 3 * 8 + 1, 0, 3), 6);
        due.is("CREATE: 6 before 3", run.change(CREATE, 1 * 8 + 1, 0, 3), 6);
        due.is("DELETE: 5 before 4", run.change(DELETE, 2, 0, 7), 5);
        due.is("DELETE: 1 before 5", run.change(DELETE, 3, 0, 7), 1);
        due.is("SET: 1 before 5", run.change(SET, 3, 0, 7), 1);
    }

    private static void nothingChanges(Due due) {
        Run run = new Run().open(1).create(2, 2 * 8 + 2);
        run.change(CREATE, 1, 55, 1);
        run.change(SET, 2, 66, -1);
        int[][] refused = {{CREATE, 3, 9, 4, 6}, {CREATE, 2, 9, 0, 2}, {CREATE, 2, 9, 1, 2}, {CREATE, 25, 9, 0, 1},
            {CREATE, 9, 9, 0, 3}, {SET, 3, 9, -1, 1}, {SET, 2, 9, 0, 5}, {DELETE, 3, 9, -1, 1},
            {DELETE, 1, 9, 1, 5}, {DELETE, 2, 9, 1, 4}, {OPEN, 0, 9, 1, 2}, {CLOSE, 0, 9, 4, 6}};
        for (int[] r : refused) {
            due.is("result of change " + r[0] + " of " + r[1], run.change(r[0], r[1], r[2], r[3]), r[4]);
            due.is("the tree", run.x.tree(1), 3 + 64 * 2);
        }
        run.nodeIs(due, 0, 0, 0, 2, 0);
        run.nodeIs(due, 1, 55, 0, 0, 1);
        run.nodeIs(due, 2, 66, 1, 1, 0);
        run.nodeIs(due, 2 * 8 + 2, 118, 0, 0, 0);
        run.noNode(due, 3);
        run.noNode(due, 9);
        run.noNode(due, 25);
    }

    private static void create(Sentences s) {
        s.test("1 CREATE path, data a, owner b: 6 when b is not 0 and that session is not open", due -> {
            Run run = new Run().open(1, 3);
            run.change(CLOSE, 0, 0, 3);
            due.is("never opened", run.change(CREATE, 1, 0, 2), 6);
            due.is("closed again", run.change(CREATE, 1, 0, 3), 6);
            due.is("another one is open", run.change(CREATE, 1, 0, 4), 6);
            run.noNode(due, 1);
            due.is("open", run.change(CREATE, 1, 0, 1), 0);
            due.is("no owner", run.change(CREATE, 2, 0, 0), 0);
        });
        s.test("2 when the node is there", due -> {
            Run run = new Run().open(1).create(1, 9);
            due.is("a child of the root", run.change(CREATE, 1, 5, 0), 2);
            due.is("a deeper one", run.change(CREATE, 9, 5, 0), 2);
            due.is("with an owner", run.change(CREATE, 9, 5, 1), 2);
            run.nodeIs(due, 1, 101, 0, 1, 0);
            run.nodeIs(due, 9, 109, 0, 0, 0);
        });
        s.test("1 when its parent is not there", due -> {
            Run run = new Run().create(1);
            due.is("no parent", run.change(CREATE, 17, 0, 0), 1);
            due.is("a grandparent alone", run.change(CREATE, 73, 0, 0), 1);
            run.change(DELETE, 1, 0, -1);
            due.is("the parent is gone", run.change(CREATE, 9, 0, 0), 1);
            due.is("no node", run.x.tree(1), 0);
        });
        s.test("3 when its parent has an owner", TreeSentences::parentWithOwner);
        s.test("else 0: the node is there, with version 0.", TreeSentences::createdNode);
    }

    private static void parentWithOwner(Due due) {
        for (int owner = 1; owner <= 4; owner++) {
            Run run = new Run().open(owner).create(2);
            run.change(CREATE, 1, 0, owner);
            due.is("child without an owner", run.change(CREATE, 9, 0, 0), 3);
            due.is("child of the same owner", run.change(CREATE, 9, 0, owner), 3);
            run.change(CREATE, 17, 0, owner);
            due.is("one level deeper", run.change(CREATE, 137, 0, 0), 3);
            due.is("an owned child of one without an owner", run.change(CREATE, 18, 0, owner), 0);
        }
    }

    private static void createdNode(Due due) {
        Run run = new Run().open(4);
        due.is("CREATE", run.change(CREATE, 6, -8, 0), 0);
        run.nodeIs(due, 6, -8, 0, 0, 0);
        due.is("CREATE with an owner", run.change(CREATE, 5, 8, 4), 0);
        run.nodeIs(due, 5, 8, 0, 0, 4);
        run.change(SET, 6, 1, -1);
        run.change(DELETE, 6, 0, 1);
        due.is("CREATE again", run.change(CREATE, 6, 3, 4), 0);
        run.nodeIs(due, 6, 3, 0, 0, 4);
        run.nodeIs(due, 5, 8, 0, 0, 4);
        run.change(SET, 6, 1, -1);
        run.change(DELETE, 6, 0, 1);
        due.is("CREATE after the newest node is gone", run.change(CREATE, 7, 4, 0), 0);
        run.nodeIs(due, 7, 4, 0, 0, 0);
    }

    private static void set(Sentences s) {
        s.test("2 SET path, data a, version b: 1 when the node is not there", due -> {
            Run run = new Run().create(1);
            due.is("any version", run.change(SET, 2, 5, -1), 1);
            due.is("version 0", run.change(SET, 2, 5, 0), 1);
            due.is("a child that is not there", run.change(SET, 9, 5, 0), 1);
            run.noNode(due, 2);
        });
        s.test("5 when b is not -1 and not its version", due -> {
            Run run = new Run().create(1);
            due.is("one above 0", run.change(SET, 1, 5, 1), 5);
            run.change(SET, 1, 6, 0);
            due.is("one below 1", run.change(SET, 1, 5, 0), 5);
            due.is("one above 1", run.change(SET, 1, 5, 2), 5);
            due.is("far above", run.change(SET, 1, 5, Integer.MAX_VALUE), 5);
            run.nodeIs(due, 1, 6, 1, 0, 0);
            due.is("its version", run.change(SET, 1, 7, 1), 0);
            due.is("-1", run.change(SET, 1, 8, -1), 0);
        });
        s.test("else 0: its data becomes a and its version grows by 1.", due -> {
            Run run = new Run().open(2).create(2);
            run.change(CREATE, 1, 5, 2);
            due.is("SET", run.change(SET, 1, 6, 0), 0);
            run.nodeIs(due, 1, 6, 1, 0, 2);
            due.is("SET to the same data", run.change(SET, 1, 6, -1), 0);
            run.nodeIs(due, 1, 6, 2, 0, 2);
            run.nodeIs(due, 2, 102, 0, 0, 0);
        });
    }

    private static void delete(Sentences s) {
        s.test("3 DELETE path, version b: 1 and 5 as for SET", due -> {
            Run run = new Run().create(1);
            due.is("not there, any version", run.change(DELETE, 2, 0, -1), 1);
            due.is("not there, version 0", run.change(DELETE, 2, 0, 0), 1);
            due.is("one above", run.change(DELETE, 1, 0, 1), 5);
            run.change(SET, 1, 0, -1);
            due.is("one below", run.change(DELETE, 1, 0, 0), 5);
            due.is("far above", run.change(DELETE, 1, 0, Integer.MAX_VALUE), 5);
            due.is("its version", run.change(DELETE, 1, 0, 1), 0);
            run.create(1);
            due.is("-1", run.change(DELETE, 1, 0, -1), 0);
        });
        s.test("4 when it has children", due -> {
            Run run = new Run().open(1).create(1, 2, 9, 73);
            due.is("one child", run.change(DELETE, 1, 0, 0), 4);
            due.is("one child, any version", run.change(DELETE, 9, 0, -1), 4);
            due.is("another node's children", run.change(DELETE, 2, 0, 0), 0);
            due.is("no child", run.change(DELETE, 73, 0, 0), 0);
            due.is("no child any more", run.change(DELETE, 9, 0, 0), 0);
            run.change(CREATE, 15, 0, 1);
            due.is("a child with an owner", run.change(DELETE, 1, 0, 0), 4);
            run.change(CLOSE, 0, 0, 1);
            due.is("the child went with its owner", run.change(DELETE, 1, 0, 0), 0);
        });
        s.test("else 0: it is not there any more.", due -> {
            Run run = new Run().create(1, 2, 3);
            due.is("the first one", run.change(DELETE, 1, 0, 0), 0);
            run.noNode(due, 1);
            run.nodeIs(due, 2, 102, 0, 0, 0);
            run.nodeIs(due, 3, 103, 0, 0, 0);
            due.is("the last one", run.change(DELETE, 3, 0, 0), 0);
            due.is("the only one", run.change(DELETE, 2, 0, 0), 0);
            due.is("an empty tree", run.x.tree(1), 0);
            due.is("it is gone for DELETE", run.change(DELETE, 1, 0, -1), 1);
        });
    }

    private static void sessions(Sentences s) {
        s.test("4 OPEN session b: 2 when it is open", due -> {
            Run run = new Run().open(1, 4);
            due.is("1 is open", run.change(OPEN, 0, 0, 1), 2);
            due.is("4 is open", run.change(OPEN, 0, 0, 4), 2);
            due.is("2 is not", run.change(OPEN, 0, 0, 2), 0);
            run.change(CLOSE, 0, 0, 4);
            due.is("4 is open no more", run.change(OPEN, 0, 0, 4), 0);
        });
        s.test("else 0: it is open.", due -> {
            Run run = new Run();
            for (int session = 1; session <= 4; session++) {
                due.is("OPEN", run.change(OPEN, 0, 0, session), 0);
                due.is("it can own nodes", run.change(CREATE, session, 0, session), 0);
            }
            due.is("all are open", run.x.tree(1), 4 + 64 * 30);
        });
        s.test("5 CLOSE session b: 6 when it is not open", due -> {
            Run run = new Run().open(2);
            due.is("never opened", run.change(CLOSE, 0, 0, 1), 6);
            due.is("open", run.change(CLOSE, 0, 0, 2), 0);
            due.is("closed before", run.change(CLOSE, 0, 0, 2), 6);
        });
        s.test("else 0: all nodes that it owns are there no more", TreeSentences::closeTakesNodes);
        s.test("and it is not open.", due -> {
            Run run = new Run().open(1, 2);
            due.is("CLOSE", run.change(CLOSE, 0, 0, 1), 0);
            due.is("the other one is still open", run.x.tree(1), 64 * 4);
            due.is("it can own no node", run.change(CREATE, 1, 0, 1), 6);
            due.is("the other one can", run.change(CREATE, 1, 0, 2), 0);
        });
    }

    private static void closeTakesNodes(Due due) {
        Run none = new Run().open(1).create(1);
        due.is("CLOSE without a node", none.change(CLOSE, 0, 0, 1), 0);
        due.is("takes none", none.x.tree(1), 1);
        Run run = new Run().open(1, 2);
        run.change(CREATE, 1, 0, 1);
        run.change(CREATE, 2, 22, 2);
        run.create(3);
        run.change(CREATE, 25, 0, 1);
        run.change(CREATE, 26, 33, 2);
        run.change(CREATE, 6, 0, 1);
        run.change(CREATE, 7, 0, 1);
        due.is("CLOSE", run.change(CLOSE, 0, 0, 1), 0);
        for (int path : new int[] {1, 25, 6, 7}) {
            run.noNode(due, path);
        }
        run.nodeIs(due, 2, 22, 0, 0, 2);
        run.nodeIs(due, 3, 103, 0, 1, 0);
        run.nodeIs(due, 26, 33, 0, 0, 2);
        run.open(1);
        due.is("they do not come back", run.x.tree(1), 3 + 64 * 6);
    }

    private static Run someNodes() {
        Run run = new Run().open(3).create(1);
        run.change(CREATE, 9, -7, 3);
        run.change(CREATE, 10, 8, 0);
        run.change(SET, 1, 44, -1);
        run.change(SET, 1, 45, -1);
        return run;
    }

    private static void node(Sentences s) {
        s.under("Promise 19");
        s.test("About the node with this path (0 is the root) in the tree of a server", TreeSentences::ofEachServer);
        s.test("which 0: 1", due -> {
            due.is("there", someNodes().x.node(1, 1, 0), 1);
            due.is("the root", someNodes().x.node(1, 0, 0), 1);
        });
        s.test("1: its data", due -> {
            due.is("set", someNodes().x.node(1, 1, 1), 45);
            due.is("created", someNodes().x.node(1, 9, 1), -7);
            due.is("the root", someNodes().x.node(1, 0, 1), 0);
        });
        s.test("2: its version", due -> {
            due.is("set twice", someNodes().x.node(1, 1, 2), 2);
            due.is("never set", someNodes().x.node(1, 9, 2), 0);
            due.is("the root", someNodes().x.node(1, 0, 2), 0);
        });
        s.test("3: the number of its children", TreeSentences::childrenCounted);
        s.test("4: its owner.", due -> {
            due.is("with an owner", someNodes().x.node(1, 9, 4), 3);
            due.is("without", someNodes().x.node(1, 1, 4), 0);
            due.is("the root", someNodes().x.node(1, 0, 4), 0);
        });
        s.test("0 when there is no such node", TreeSentences::noSuchNode);
        s.test("or server", due -> {
            EpochTree x = someNodes().x;
            for (int server : Steps.NO_SERVERS) {
                for (int which = 0; which <= 4; which++) {
                    due.is("node of " + server, x.node(server, 1, which), 0);
                    due.is("root of " + server, x.node(server, 0, which), 0);
                }
            }
        });
        s.test("or which is another number.", due -> {
            EpochTree x = someNodes().x;
            for (int which : new int[] {-1, 5, Integer.MIN_VALUE, Integer.MAX_VALUE}) {
                due.is("which " + which, x.node(1, 1, which), 0);
                due.is("which " + which + " of an owned node", x.node(1, 9, which), 0);
                due.is("which " + which + " of the root", x.node(1, 0, which), 0);
            }
        });
    }

    private static void ofEachServer(Due due) {
        EpochTree x = Steps.established(0, 1);
        x.submit(0, CREATE, 1, 5, 0);
        x.down(1);
        due.is("not applied by the leader", x.node(0, 1, 0), 0);
        x.up(1);
        due.is("applied by the leader", x.node(0, 1, 1), 5);
        due.is("not by the follower", x.node(1, 1, 0), 0);
        x.down(1);
        due.is("applied by the follower", x.node(1, 1, 1), 5);
        due.is("not by the third one", x.node(2, 1, 0), 0);
        due.is("whose root has no child", x.node(2, 0, 3), 0);
        due.is("the leader's root has one", x.node(0, 0, 3), 1);
    }

    private static void childrenCounted(Due due) {
        Run run = new Run().create(1, 7);
        due.is("none", run.x.node(1, 7, 3), 0);
        for (int digit = 1; digit <= 7; digit++) {
            run.create(56 + digit);
            due.is("children of 7", run.x.node(1, 7, 3), digit);
        }
        run.create(505, 511);
        due.is("grandchildren do not count", run.x.node(1, 7, 3), 7);
        due.is("children of 63", run.x.node(1, 63, 3), 2);
        due.is("children of 511", run.x.node(1, 511, 3), 0);
        due.is("children of 1", run.x.node(1, 1, 3), 0);
        due.is("children of the root", run.x.node(1, 0, 3), 2);
        run.change(DELETE, 57, 0, -1);
        due.is("one less", run.x.node(1, 7, 3), 6);
    }

    private static void noSuchNode(Due due) {
        Run run = someNodes();
        int[] paths = {2, 8, 11, 64, 73, 511, 512, 513, -1, -8, -9, Integer.MIN_VALUE, Integer.MAX_VALUE};
        for (int path : paths) {
            run.noNode(due, path);
        }
    }

    private static void tree(Sentences s) {
        s.under("Promise 20");
        s.test("The number of nodes in the tree of a server without the root", TreeSentences::nodesCounted);
        s.test("plus 64 times the sum of 2^s over the open sessions s", TreeSentences::sessionsCounted);
        s.test("BAD when there is no such server.", due -> {
            for (int server : Steps.NO_SERVERS) {
                due.is("tree(" + server + ")", someNodes().x.tree(server), EpochTree.BAD);
            }
        });
    }

    private static void nodesCounted(Due due) {
        Run run = new Run();
        due.is("none", run.x.tree(0), 0);
        int count = 0;
        for (int digit = 1; digit <= 7; digit++) {
            run.create(digit, digit * 9, digit * 73);
            count += 3;
            due.is("nodes", run.x.tree(1), count);
        }
        run.create(10, 11, 12);
        due.is("the most that 24 entries can make", run.x.tree(1), 24);
        due.is("at the leader too", run.x.tree(0), 24);
        due.is("at the third one none", run.x.tree(2), 0);
    }

    private static void sessionsCounted(Due due) {
        int[][] sets = {{}, {1}, {2}, {3}, {4}, {1, 2}, {1, 4}, {2, 3}, {1, 2, 3, 4}};
        int[] sums = {0, 2, 4, 8, 16, 6, 18, 12, 30};
        for (int i = 0; i < sets.length; i++) {
            Run run = new Run().open(sets[i]);
            due.is("sessions alone", run.x.tree(1), 64 * sums[i]);
            run.create(1, 2);
            due.is("with two nodes", run.x.tree(1), 2 + 64 * sums[i]);
        }
    }
}

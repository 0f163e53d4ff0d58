/** What it is, servers and roles, and the promises 1 to 6 and 12 to 14. */
final class RoleSentences {
    private static final int[] NONE = Steps.NO_SERVERS;

    private RoleSentences() {
    }

    static void tests(Sentences s) {
        whatItIs(s);
        terms(s);
        newObject(s);
        lead(s);
        follow(s);
        quit(s);
        crash(s);
        restart(s);
        askings(s);
    }

    private static void whatItIs(Sentences s) {
        s.under("What it is");
        s.test("Three servers keep the same tree of nodes: one leads and numbers the changes, the others follow",
                RoleSentences::leaderNumbers);
        s.test("a change counts once two of the three have it.", RoleSentences::twoOfThree);
        s.test("An object is used for at most 512 calls after it has been made", RoleSentences::call512);
        s.noTest("what later calls answer is free.");
    }

    private static void leaderNumbers(Due due) {
        EpochTree x = Steps.established(0, 1);
        Steps.join(x, 2, 0);
        x.submit(0, 4, 0, 0, 1);
        x.submit(0, 4, 0, 0, 2);
        Steps.settle(x, 1);
        Steps.settle(x, 2);
        for (int server = 0; server < 3; server++) {
            due.is("first mark at " + server, x.mark(server, 1), 1001);
            due.is("second mark at " + server, x.mark(server, 2), 1002);
            due.is("the same tree at " + server, x.tree(server), 64 * 6);
        }
    }

    private static void twoOfThree(Due due) {
        EpochTree x = Steps.established(0, 1);
        Steps.join(x, 2, 0);
        x.submit(0, 1, 1, 5, 0);
        due.is("one has it: applied", x.applied(0), 0);
        x.down(1);
        due.is("two have it, the leader does not know: applied", x.applied(0), 0);
        x.up(1);
        due.is("two have it: applied", x.applied(0), 1);
        due.is("the third has it not", x.length(2), 0);
    }

    private static void call512(Due due) {
        EpochTree high = new EpochTree();
        Steps.chooseEpochs(high, 0, 1, 126);
        due.is("call 505", high.promise(0), 126);
        high.lead(0);
        Steps.accept(high, 1, 0);
        due.is("call 511", high.epoch(0), 127);
        due.is("call 512", high.promise(1), 127);
        EpochTree marks = new EpochTree();
        Steps.chooseEpochs(marks, 0, 1, 124);
        marks.lead(0);
        Steps.accept(marks, 1, 0);
        marks.down(1);
        marks.up(1);
        for (int call = 504; call < 512; call++) {
            due.is("call " + call, marks.submit(0, 4, 0, 0, 1), call - 503);
        }
        due.is("call 512", marks.mark(0, 8), 125008);
        youngFor512Calls(due);
    }

    private static void youngFor512Calls(Due due) {
        EpochTree x = new EpochTree();
        x.lead(0);
        Steps.accept(x, 1, 0);
        x.down(1);
        x.up(1);
        x.submit(0, 4, 0, 0, 1);
        x.down(1);
        x.down(1);
        x.up(1);
        for (int call = 12; call + 2 <= 512; call += 3) {
            due.is("tick at call " + call, x.tick(), 0);
            due.is("tick after it", x.tick(), 0);
            due.yes("touch after that", x.touch(0, 1));
        }
    }

    private static void terms(Sentences s) {
        s.under("Terms");
        s.test("Servers crash, restart, give up and lead anew at any time", RoleSentences::atAnyTime);
        s.test("a new leader begins a new epoch", RoleSentences::newEpochs);
        s.test("in which it first finds out which list of changes is the right one.", RoleSentences::listFirst);
        s.test("SERVERS 0, 1, 2.", RoleSentences::threeServers);
        s.test("What lasts in a server (also over a crash): its PROMISE", RoleSentences::promiseLasts);
        s.test("and its EPOCH", RoleSentences::epochLasts);
        s.test("(0 at first)", RoleSentences::zeroAtFirst);
        s.test("and its LIST", RoleSentences::listLasts);
        s.test("What is lost in a crash: its ROLE", RoleSentences::roleIsLost);
        s.test("how many entries of its list, from the first one on, are APPLIED (0 after a crash)",
                RoleSentences::appliedIsLost);
        s.test("and its TREE", RoleSentences::treeIsLost);
        s.test("which is always the one that comes from applying these entries, one after the other, to the empty tree.",
                RoleSentences::treeComesFromEntries);
        s.test("A server is DOWN (0)", due -> due.is("role", Steps.inRole(0).role(0), 0));
        s.test("LOOKING (1)", due -> due.is("role", Steps.inRole(1).role(0), 1));
        s.test("FOLLOWING (2) some leader", due -> due.is("role", Steps.inRole(2).role(0), 2));
        s.test("LEADING but not yet established (3)", RoleSentences::notYetEstablished);
        s.test("or LEADING and ESTABLISHED (4).", due -> due.is("role", Steps.inRole(4).role(0), 4));
        s.test("At first all are LOOKING.", RoleSentences::allLook);
    }

    private static void atAnyTime(Due due) {
        for (int role = 1; role <= 4; role++) {
            EpochTree x = Steps.inRole(role);
            due.yes("crash in role " + role, x.crash(0));
            due.yes("restart after role " + role, x.restart(0));
            due.yes("lead anew after role " + role, x.lead(0));
        }
        for (int role = 2; role <= 4; role++) {
            EpochTree x = Steps.inRole(role);
            due.yes("give up in role " + role, x.quit(0));
            due.yes("lead anew after role " + role, x.lead(0));
        }
    }

    private static void newEpochs(Due due) {
        EpochTree x = new EpochTree();
        for (int i = 1; i <= 6; i++) {
            int leader = i % 3;
            int follower = (i + 1) % 3;
            x.lead(leader);
            Steps.join(x, follower, leader);
            due.is("epoch of leader " + i, x.epoch(leader), i);
            due.is("epoch of its follower", x.epoch(follower), i);
            x.quit(leader);
        }
    }

    private static void listFirst(Due due) {
        EpochTree x = Steps.established(0, 1);
        x.submit(0, 4, 0, 0, 1);
        x.quit(0);
        x.lead(1);
        x.follow(0, 1);
        for (int i = 0; i < 2; i++) {
            x.up(0);
            due.is("no change before the list is found", x.submit(1, 4, 0, 0, 2), EpochTree.IDLE);
            x.down(0);
        }
        x.up(0);
        due.is("the change comes behind the list that was found", x.submit(1, 4, 0, 0, 2), 2);
    }

    private static void threeServers(Due due) {
        EpochTree x = new EpochTree();
        for (int server = 0; server <= 2; server++) {
            due.is("role of " + server, x.role(server), 1);
            due.yes("crash of " + server, x.crash(server));
            due.yes("restart of " + server, x.restart(server));
            due.yes("lead of " + server, x.lead(server));
            due.yes("follow of the next one", x.follow((server + 1) % 3, server));
            due.is("up of the next one", x.up((server + 1) % 3), 1);
            due.is("down of the next one", x.down((server + 1) % 3), 4);
            due.yes("quit of " + server, x.quit(server));
        }
        due.is("role of -1", x.role(-1), EpochTree.BAD);
        due.is("role of 3", x.role(3), EpochTree.BAD);
    }

    /** Server 0 leads with 24 entries, all applied by 0 and its follower 1. */
    private static EpochTree fullAndApplied() {
        EpochTree x = Steps.established(0, 1);
        x.submit(0, 4, 0, 0, 2);
        x.submit(0, 1, 1, 5, 2);
        Steps.fillTo(x, 0, 24);
        Steps.settle(x, 1);
        return x;
    }

    private static void promiseLasts(Due due) {
        EpochTree x = fullAndApplied();
        for (int server = 0; server < 2; server++) {
            x.crash(server);
            due.is("promise when down", x.promise(server), 1);
            x.restart(server);
            due.is("promise after restart", x.promise(server), 1);
        }
        x.lead(0);
        x.follow(1, 0);
        x.up(1);
        due.is("the next epoch is above it", x.promise(0), 2);
        x.down(1);
        x.crash(1);
        due.is("promised, and nothing more", x.promise(1), 2);
    }

    private static void epochLasts(Due due) {
        EpochTree x = fullAndApplied();
        for (int server = 0; server < 2; server++) {
            x.crash(server);
            due.is("epoch when down", x.epoch(server), 1);
            x.restart(server);
            due.is("epoch after restart", x.epoch(server), 1);
        }
    }

    private static void zeroAtFirst(Due due) {
        EpochTree x = new EpochTree();
        for (int server = 0; server < 3; server++) {
            due.is("promise", x.promise(server), 0);
            due.is("epoch", x.epoch(server), 0);
        }
    }

    private static void listLasts(Due due) {
        EpochTree x = fullAndApplied();
        for (int server = 0; server < 2; server++) {
            x.crash(server);
            due.is("length when down", x.length(server), 24);
            x.restart(server);
            due.is("length after restart", x.length(server), 24);
            for (int k = 1; k <= 24; k++) {
                due.is("mark " + k, x.mark(server, k), 1000 + k);
            }
        }
        x.lead(1);
        Steps.join(x, 2, 1);
        due.is("and the changes in it", x.node(2, 1, 1), 5);
    }

    private static void roleIsLost(Due due) {
        for (int role = 1; role <= 4; role++) {
            EpochTree x = Steps.inRole(role);
            x.crash(0);
            due.is("role after a crash in role " + role, x.role(0), 0);
            x.restart(0);
            due.is("role after the restart", x.role(0), 1);
        }
    }

    private static void appliedIsLost(Due due) {
        EpochTree x = fullAndApplied();
        due.is("applied by the leader", x.applied(0), 24);
        due.is("applied by the follower", x.applied(1), 24);
        for (int server = 0; server < 3; server++) {
            x.crash(server);
            due.is("applied when down", x.applied(server), 0);
            x.restart(server);
            due.is("applied after restart", x.applied(server), 0);
            due.is("no result", x.result(server, 1), EpochTree.BAD);
        }
    }

    private static void treeIsLost(Due due) {
        EpochTree x = fullAndApplied();
        for (int server = 0; server < 2; server++) {
            due.is("tree", x.tree(server), 1 + 64 * 4);
            x.crash(server);
            due.is("tree when down", x.tree(server), 0);
            due.is("node when down", x.node(server, 1, 0), 0);
            due.is("the root when down", x.node(server, 0, 3), 0);
            x.restart(server);
            due.is("tree after restart", x.tree(server), 0);
        }
    }

    private static void treeComesFromEntries(Due due) {
        EpochTree x = Steps.established(0, 1);
        x.submit(0, 1, 1, 2, 0);
        x.submit(0, 1, 9, 3, 0);
        x.submit(0, 2, 9, 4, -1);
        x.submit(0, 1, 9, 5, 0);
        int[] tree = {1, 2, 2, 2};
        int[] data = {0, 3, 4, 4};
        for (int k = 1; k <= 4; k++) {
            x.down(1);
        }
        for (int k = 1; k <= 4; k++) {
            x.up(1);
            due.is("nodes after " + k + " entries", x.tree(0), tree[k - 1]);
            due.is("data of 9 after " + k + " entries", x.node(0, 9, 1), data[k - 1]);
        }
        Steps.settle(x, 1);
        x.crash(1);
        x.restart(1);
        Steps.join(x, 1, 0);
        due.is("again, from the empty tree", x.tree(1), 2);
        due.is("the version is that of one SET", x.node(1, 9, 2), 1);
        due.is("the first CREATE is done again", x.result(1, 1), 0);
        due.is("the last one is refused again", x.result(1, 4), 2);
    }

    private static void notYetEstablished(Due due) {
        EpochTree x = Steps.inRole(3);
        due.is("role", x.role(0), 3);
        Steps.accept(x, 1, 0);
        due.is("role when its list is chosen", x.role(0), 3);
    }

    private static void allLook(Due due) {
        EpochTree x = new EpochTree();
        for (int server = 0; server < 3; server++) {
            due.is("role of " + server, x.role(server), 1);
        }
    }

    private static void newObject(Sentences s) {
        s.under("Promise 1");
        s.test("All servers are LOOKING", RoleSentences::allLook);
        s.test("with promise and epoch 0", RoleSentences::zeroAtFirst);
        s.test("empty lists", RoleSentences::emptyLists);
        s.test("and empty trees.", RoleSentences::emptyTrees);
    }

    private static void emptyLists(Due due) {
        EpochTree x = new EpochTree();
        for (int server = 0; server < 3; server++) {
            due.is("length", x.length(server), 0);
            due.is("mark 1", x.mark(server, 1), 0);
            due.is("applied", x.applied(server), 0);
            due.is("result 1", x.result(server, 1), EpochTree.BAD);
        }
    }

    private static void emptyTrees(Due due) {
        EpochTree x = new EpochTree();
        for (int server = 0; server < 3; server++) {
            due.is("tree", x.tree(server), 0);
            due.is("the root", x.node(server, 0, 0), 1);
            due.is("its children", x.node(server, 0, 3), 0);
            for (int path = 1; path <= 7; path++) {
                due.is("node " + path, x.node(server, path, 0), 0);
            }
        }
    }

    private static void lead(Sentences s) {
        s.under("Promise 2");
        s.test("A LOOKING server begins to lead: true.", due -> {
            EpochTree x = new EpochTree();
            for (int server = 0; server < 3; server++) {
                due.yes("lead", x.lead(server));
                due.is("role", x.role(server), 3);
            }
            due.is("no epoch is chosen by leading", x.promise(0), 0);
        });
        s.test("False when it is in another role", due -> {
            for (int role : new int[] {0, 2, 3, 4}) {
                EpochTree x = Steps.inRole(role);
                due.no("lead in role " + role, x.lead(0));
                due.is("the role stays", x.role(0), role);
            }
        });
        s.test("or there is none.", due -> {
            for (int server : NONE) {
                due.no("lead(" + server + ")", new EpochTree().lead(server));
            }
        });
    }

    private static void follow(Sentences s) {
        s.under("Promise 3");
        s.test("A LOOKING server begins to follow another one that is LEADING", RoleSentences::followLeader);
        s.test("(established or not)", RoleSentences::followEstablished);
        s.test("it sends JOIN with its promise", RoleSentences::joinHasPromise);
        s.test("on a new link.", RoleSentences::newLink);
        s.test("True; false when one of them is not so", RoleSentences::followInOtherRoles);
        s.test("or there is none.", RoleSentences::followNone);
    }

    private static void followLeader(Due due) {
        for (int leader = 0; leader < 3; leader++) {
            EpochTree x = new EpochTree();
            x.lead(leader);
            for (int step = 1; step <= 2; step++) {
                int follower = (leader + step) % 3;
                due.yes(follower + " follows " + leader, x.follow(follower, leader));
                due.is("its role", x.role(follower), 2);
                due.is("the leader's role", x.role(leader), 3);
            }
        }
    }

    private static void followEstablished(Due due) {
        EpochTree x = Steps.established(0, 1);
        due.yes("follow an established leader", x.follow(2, 0));
        due.is("it follows", x.role(2), 2);
        due.is("which stays established", x.role(0), 4);
    }

    private static void joinHasPromise(Due due) {
        for (int promise = 0; promise <= 3; promise++) {
            EpochTree x = new EpochTree();
            Steps.chooseEpochs(x, 1, 2, promise);
            x.lead(0);
            x.follow(1, 0);
            due.is("messages up", x.waiting(1, true), 1);
            due.is("messages down", x.waiting(1, false), 0);
            due.is("it is JOIN", x.up(1), 1);
            due.is("its promise was " + promise, x.promise(0), promise + 1);
        }
    }

    private static void newLink(Due due) {
        EpochTree x = Steps.established(0, 1);
        x.submit(0, 4, 0, 0, 1);
        x.submit(0, 4, 0, 0, 2);
        x.down(1);
        x.quit(1);
        x.follow(1, 0);
        due.is("JOIN alone is up", x.waiting(1, true), 1);
        due.is("nothing is down", x.waiting(1, false), 0);
        x.submit(0, 4, 0, 0, 3);
        due.is("it is not tied", x.waiting(1, false), 0);
        due.is("JOIN", x.up(1), 1);
        due.is("NEWEPOCH", x.down(1), 4);
        due.is("ACCEPTED", x.up(1), 2);
        due.is("NEWLEADER", x.down(1), 5);
        due.is("ACK", x.up(1), 3);
        due.is("COMMIT", x.down(1), 7);
        x.quit(1);
        Steps.accept(x, 1, 0);
        x.down(1);
        due.is("its first ACK, with nothing new", x.up(1), 3);
        due.is("is answered by COMMIT as on every new link", x.down(1), 7);
    }

    private static void followInOtherRoles(Due due) {
        for (int role : new int[] {0, 2, 3, 4}) {
            EpochTree x = Steps.inRole(role);
            int leader = role == 2 ? 1 : 2;
            x.lead(leader);
            due.no("follow in role " + role, x.follow(0, leader));
            due.is("the role stays", x.role(0), role);
        }
        for (int role = 0; role <= 2; role++) {
            EpochTree x = Steps.inRole(role);
            due.no("follow one in role " + role, x.follow(2, 0));
            due.is("it still looks", x.role(2), 1);
        }
        due.no("one that looks follows itself", new EpochTree().follow(0, 0));
        due.no("a leader follows itself", Steps.inRole(3).follow(0, 0));
        due.no("an established leader follows itself", Steps.inRole(4).follow(0, 0));
    }

    private static void followNone(Due due) {
        for (int server : NONE) {
            EpochTree x = Steps.established(0, 1);
            due.no("follow(" + server + ", 0)", x.follow(server, 0));
            due.no("follow(2, " + server + ")", x.follow(2, server));
            due.no("follow of none and none", x.follow(server, server));
            due.is("2 still looks", x.role(2), 1);
        }
    }

    private static void quit(Sentences s) {
        s.under("Promise 4");
        s.test("A server that follows or leads gives up and is LOOKING: true.", due -> {
            for (int role = 2; role <= 4; role++) {
                EpochTree x = Steps.inRole(role);
                due.yes("quit in role " + role, x.quit(0));
                due.is("role", x.role(0), 1);
            }
        });
        s.test("False when it is in another role", due -> {
            for (int role = 0; role <= 1; role++) {
                EpochTree x = Steps.inRole(role);
                due.no("quit in role " + role, x.quit(0));
                due.is("the role stays", x.role(0), role);
            }
        });
        s.test("or there is none.", due -> {
            for (int server : NONE) {
                due.no("quit(" + server + ")", Steps.established(0, 1).quit(server));
            }
        });
    }

    private static void crash(Sentences s) {
        s.under("Promise 5");
        s.test("A server that is not DOWN becomes DOWN", due -> {
            for (int role = 1; role <= 4; role++) {
                EpochTree x = Steps.inRole(role);
                due.yes("crash in role " + role, x.crash(0));
                due.is("role", x.role(0), 0);
            }
        });
        s.test("(and stops following or leading): true.", RoleSentences::crashStops);
        s.test("False when it is DOWN", due -> {
            EpochTree x = Steps.inRole(0);
            due.no("crash when down", x.crash(0));
            due.is("still down", x.role(0), 0);
        });
        s.test("or there is none.", due -> {
            for (int server : NONE) {
                due.no("crash(" + server + ")", Steps.established(0, 1).crash(server));
            }
        });
    }

    private static void crashStops(Due due) {
        EpochTree x = Steps.established(0, 1);
        x.follow(2, 0);
        x.crash(1);
        due.is("the leader of one that crashes leads on", x.role(0), 4);
        due.is("the other follower follows on", x.role(2), 2);
        x.restart(1);
        due.is("no link is left", x.up(1), 0);
        x.follow(1, 0);
        x.crash(0);
        due.is("a follower of one that crashes looks", x.role(1), 1);
        due.is("the other one too", x.role(2), 1);
        x.restart(0);
        due.no("nobody leads", x.follow(1, 0));
    }

    private static void restart(Sentences s) {
        s.under("Promise 6");
        s.test("A server that is DOWN becomes LOOKING: true.", due -> {
            for (int server = 0; server < 3; server++) {
                EpochTree x = new EpochTree();
                x.crash(server);
                due.yes("restart", x.restart(server));
                due.is("role", x.role(server), 1);
            }
        });
        s.test("False otherwise.", due -> {
            for (int role = 1; role <= 4; role++) {
                EpochTree x = Steps.inRole(role);
                due.no("restart in role " + role, x.restart(0));
                due.is("the role stays", x.role(0), role);
            }
            for (int server : NONE) {
                due.no("restart(" + server + ")", new EpochTree().restart(server));
            }
        });
    }

    private static void askings(Sentences s) {
        s.under("Promise 12");
        s.test("The role of a server, 0 to 4 as above", due -> {
            for (int role = 0; role <= 4; role++) {
                due.is("role", Steps.inRole(role).role(0), role);
            }
        });
        s.test("BAD when there is none.", due -> {
            for (int server : NONE) {
                due.is("role(" + server + ")", new EpochTree().role(server), EpochTree.BAD);
            }
        });
        s.under("Promise 13");
        s.test("The promise of a server", due -> {
            EpochTree x = Steps.inRole(3);
            x.follow(1, 0);
            x.up(1);
            due.is("the leader's", x.promise(0), 1);
            due.is("the follower's", x.promise(1), 0);
            due.is("the third one's", x.promise(2), 0);
            due.is("it is not the epoch", x.epoch(0), 0);
        });
        s.test("BAD when there is none.", due -> {
            for (int server : NONE) {
                due.is("promise(" + server + ")", new EpochTree().promise(server), EpochTree.BAD);
            }
        });
        s.under("Promise 14");
        s.test("The epoch of a server", due -> {
            EpochTree x = Steps.inRole(3);
            Steps.accept(x, 1, 0);
            due.is("the leader's", x.epoch(0), 1);
            due.is("the follower's", x.epoch(1), 0);
            due.is("the third one's", x.epoch(2), 0);
            due.is("it is not the promise", x.promise(1), 1);
        });
        s.test("BAD when there is none.", due -> {
            for (int server : NONE) {
                due.is("epoch(" + server + ")", new EpochTree().epoch(server), EpochTree.BAD);
            }
        });
    }
}

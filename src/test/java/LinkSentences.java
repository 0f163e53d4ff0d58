/** Links, what a leader chooses, and the promises 7, 8 and 21: reading messages, and how many wait. */
final class LinkSentences {
    private LinkSentences() {
    }

    static void tests(Sentences s) {
        links(s);
        up(s);
        down(s);
        waiting(s);
    }

    private static void links(Sentences s) {
        s.under("Terms");
        s.test("LINKS. A server that follows has a link with its leader: two rows of messages, UP (to the leader) and DOWN (from the leader)",
                LinkSentences::twoRows);
        s.test("each read in the order of sending.", LinkSentences::orderOfSending);
        s.test("A link is CUT when the follower stops following", LinkSentences::cutByFollower);
        s.test("or its leader stops leading", LinkSentences::cutByLeader);
        s.test("both rows are lost", LinkSentences::rowsAreLost);
        s.test("and a follower whose leader stops leading is LOOKING at once.", LinkSentences::lookingAtOnce);
        s.test("A link is TIED from the moment when NEWLEADER is sent on it.", LinkSentences::tied);
        s.test("A LEADER that begins to lead has not chosen an epoch", LinkSentences::noEpochAtFirst);
        s.test("it CHOOSES one with the first message JOIN that it reads", LinkSentences::firstJoin);
        s.test("and it chooses its list with the first message ACCEPTED that counts.", LinkSentences::firstAccepted);
        s.noTest("In what follows F is the follower whose link it is, L its leader.");
    }

    private static void twoRows(Due due) {
        EpochTree x = Steps.established(0, 1);
        x.submit(0, 4, 0, 0, 1);
        x.submit(0, 4, 0, 0, 2);
        x.submit(0, 4, 0, 0, 3);
        x.down(1);
        due.is("PROPOSE twice, from the leader", x.waiting(1, false), 2);
        due.is("ACK once, to the leader", x.waiting(1, true), 1);
        due.is("the leader has no row up", x.waiting(0, true), 0);
        due.is("the leader has no row down", x.waiting(0, false), 0);
    }

    private static void orderOfSending(Due due) {
        EpochTree x = Steps.established(0, 1);
        Steps.accept(x, 2, 0);
        for (int session = 1; session <= 3; session++) {
            x.submit(0, 4, 0, 0, session);
            Steps.settle(x, 1);
        }
        int[] due2 = {5, 6, 7, 6, 7, 6, 7};
        for (int i = 0; i < due2.length; i++) {
            due.is("message down " + i, x.down(2), due2[i]);
            due.is("entries then", x.length(2), (i + 1) / 2);
            due.is("applied then", x.applied(2), i / 2);
        }
        EpochTree y = Steps.established(0, 1);
        Steps.fillTo(y, 0, 4);
        for (int i = 0; i < 4; i++) {
            y.down(1);
        }
        for (int i = 1; i <= 4; i++) {
            y.up(1);
            due.is("ACK " + i + " applies as many", y.applied(0), i);
        }
    }

    /** Server 1 follows 0, and a message waits in each row; 2 follows too, with a PROPOSE waiting. */
    private static EpochTree busy() {
        EpochTree x = Steps.established(0, 1);
        Steps.join(x, 2, 0);
        x.submit(0, 4, 0, 0, 1);
        x.submit(0, 4, 0, 0, 2);
        x.down(1);
        return x;
    }

    private static void isCut(Due due, EpochTree x, int server) {
        due.is("up of " + server, x.up(server), 0);
        due.is("down of " + server, x.down(server), 0);
        due.is("waiting up of " + server, x.waiting(server, true), 0);
        due.is("waiting down of " + server, x.waiting(server, false), 0);
    }

    private static void cutByFollower(Due due) {
        for (int i = 0; i < 2; i++) {
            EpochTree x = busy();
            due.yes("stops", i == 0 ? x.quit(1) : x.crash(1));
            isCut(due, x, 1);
            due.is("the other link is not cut", x.waiting(2, false), 2);
            due.is("nothing was read", x.applied(0), 0);
            x.submit(0, 4, 0, 0, 3);
            due.is("nothing is sent on it", x.waiting(1, false), 0);
        }
    }

    private static void cutByLeader(Due due) {
        for (int i = 0; i < 2; i++) {
            EpochTree x = busy();
            due.yes("stops", i == 0 ? x.quit(0) : x.crash(0));
            isCut(due, x, 1);
            isCut(due, x, 2);
        }
        EpochTree y = new EpochTree();
        y.lead(0);
        y.lead(1);
        y.follow(2, 1);
        y.quit(0);
        due.is("a link with another leader is not cut", y.waiting(2, true), 1);
    }

    private static void rowsAreLost(Due due) {
        EpochTree x = busy();
        due.is("up before", x.waiting(1, true), 1);
        due.is("down before", x.waiting(1, false), 1);
        x.quit(1);
        x.follow(1, 0);
        due.is("JOIN alone is up", x.waiting(1, true), 1);
        due.is("nothing is down", x.waiting(1, false), 0);
        due.is("it is JOIN", x.up(1), 1);
        due.is("the lost ACK is not read", x.applied(0), 0);
        due.is("NEWEPOCH is next", x.down(1), 4);
    }

    private static void lookingAtOnce(Due due) {
        for (int i = 0; i < 2; i++) {
            EpochTree x = busy();
            due.yes("stops", i == 0 ? x.quit(0) : x.crash(0));
            due.is("role of 1", x.role(1), 1);
            due.is("role of 2", x.role(2), 1);
            due.yes("1 leads at once", x.lead(1));
            due.yes("2 follows at once", x.follow(2, 1));
        }
    }

    private static void tied(Due due) {
        EpochTree x = Steps.established(0, 1);
        x.follow(2, 0);
        x.submit(0, 4, 0, 0, 1);
        due.is("after follow", x.waiting(2, false), 0);
        x.up(2);
        x.submit(0, 4, 0, 0, 2);
        due.is("NEWEPOCH alone", x.waiting(2, false), 1);
        x.down(2);
        x.submit(0, 4, 0, 0, 3);
        due.is("before ACCEPTED is read", x.waiting(2, false), 0);
        x.up(2);
        due.is("NEWLEADER alone", x.waiting(2, false), 1);
        x.submit(0, 4, 0, 0, 4);
        due.is("and PROPOSE, before NEWLEADER is read", x.waiting(2, false), 2);
    }

    private static void noEpochAtFirst(Due due) {
        EpochTree x = new EpochTree();
        x.lead(0);
        due.is("promise when it begins to lead", x.promise(0), 0);
        x.follow(1, 0);
        due.is("promise when one follows", x.promise(0), 0);
        x.up(1);
        due.is("promise when it has chosen", x.promise(0), 1);
        x.quit(0);
        x.lead(0);
        due.is("leading anew", x.promise(0), 1);
        x.follow(1, 0);
        x.up(1);
        due.is("it chooses anew", x.promise(0), 2);
    }

    private static void firstJoin(Due due) {
        for (int first = 1; first <= 2; first++) {
            EpochTree x = new EpochTree();
            Steps.chooseEpochs(x, 2, 1, 4);
            x.lead(0);
            x.follow(1, 0);
            x.follow(2, 0);
            x.up(first);
            int chosen = first == 1 ? 1 : 5;
            due.is("chosen with the JOIN of " + first, x.promise(0), chosen);
            x.up(3 - first);
            due.is("the later JOIN changes nothing", x.promise(0), chosen);
            x.quit(1);
            x.follow(1, 0);
            x.up(1);
            due.is("nor does one on a new link", x.promise(0), chosen);
        }
    }

    private static void firstAccepted(Due due) {
        // 0 and 2 have epoch 1, and 2 has an entry that nobody else has.
        EpochTree x = Steps.established(2, 0);
        x.submit(2, 4, 0, 0, 1);
        x.quit(2);
        x.lead(0);
        Steps.accept(x, 1, 0);
        due.is("chosen with the first one", x.epoch(0), 2);
        Steps.accept(x, 2, 0);
        due.is("a later one with a better list comes too late", x.length(0), 0);
        x.down(2);
        due.is("it takes the chosen list", x.length(2), 0);
        EpochTree y = Steps.established(2, 0);
        y.submit(2, 4, 0, 0, 1);
        y.quit(2);
        y.lead(0);
        Steps.accept(y, 2, 0);
        due.is("the better list first", y.length(0), 1);
        // The ACCEPTED of 1 is lost, so that its next one is not fresh: it does not count.
        EpochTree z = new EpochTree();
        z.lead(0);
        z.follow(1, 0);
        z.up(1);
        z.down(1);
        z.quit(1);
        Steps.accept(z, 1, 0);
        due.is("one that is not fresh does not choose", z.epoch(0), 0);
        Steps.accept(z, 2, 0);
        due.is("the first fresh one does", z.epoch(0), 1);
        z.quit(1);
        Steps.accept(z, 1, 0);
        due.is("a later one has no list to wait for", z.down(1), 5);
    }

    private static void up(Sentences s) {
        s.under("Promise 7");
        s.test("The leader of a following server reads the next message up on its link.", due -> {
            EpochTree x = Steps.inRole(3);
            x.follow(1, 0);
            x.follow(2, 0);
            x.up(1);
            due.is("read on this link", x.waiting(1, true), 0);
            due.is("not on the other one", x.waiting(2, true), 1);
            due.is("it was the leader that read", x.promise(0), 1);
        });
        s.test("Answers its kind, 1 to 3", due -> {
            EpochTree x = Steps.inRole(3);
            x.follow(1, 0);
            due.is("JOIN", x.up(1), 1);
            x.down(1);
            due.is("ACCEPTED", x.up(1), 2);
            x.down(1);
            due.is("ACK", x.up(1), 3);
        });
        s.test("0 when there is none", due -> {
            EpochTree x = Steps.inRole(3);
            x.follow(1, 0);
            x.up(1);
            due.is("the only one is read, one waits down", x.up(1), 0);
            due.is("that is no ACK", x.role(0), 3);
            Steps.settle(x, 1);
            due.is("all are read", x.up(1), 0);
        });
        s.test("or the server does not follow", due -> {
            for (int role : new int[] {0, 1, 3, 4}) {
                due.is("up in role " + role, Steps.inRole(role).up(0), 0);
            }
            EpochTree x = Steps.inRole(3);
            x.follow(1, 0);
            due.is("up of the leader", x.up(0), 0);
            due.is("reads nothing", x.waiting(1, true), 1);
        });
        s.test("or there is no such server.", due -> {
            for (int server : Steps.NO_SERVERS) {
                due.is("up(" + server + ")", busy().up(server), 0);
            }
        });
    }

    private static void down(Sentences s) {
        s.under("Promise 8");
        s.test("A following server reads the next message down on its link.", due -> {
            EpochTree x = busy();
            due.is("entries before", x.length(2), 0);
            x.down(2);
            due.is("read on this link", x.waiting(2, false), 1);
            due.is("not on the other one", x.waiting(1, false), 1);
            due.is("it was the follower that read", x.length(2), 1);
        });
        s.test("Answers its kind, 4 to 7", LinkSentences::kindsDown);
        s.test("0 when there is none", due -> {
            EpochTree x = Steps.inRole(3);
            x.follow(1, 0);
            due.is("none was sent, one waits up", x.down(1), 0);
            Steps.settle(x, 1);
            due.is("all are read", x.down(1), 0);
        });
        s.test("or the server does not follow", due -> {
            for (int role : new int[] {0, 1, 3, 4}) {
                due.is("down in role " + role, Steps.inRole(role).down(0), 0);
            }
            EpochTree x = busy();
            due.is("down of the leader", x.down(0), 0);
            due.is("reads nothing", x.waiting(1, false), 1);
        });
        s.test("or there is no such server.", due -> {
            for (int server : Steps.NO_SERVERS) {
                due.is("down(" + server + ")", busy().down(server), 0);
            }
        });
    }

    private static void kindsDown(Due due) {
        EpochTree x = Steps.inRole(3);
        x.follow(1, 0);
        x.up(1);
        due.is("NEWEPOCH", x.down(1), 4);
        x.up(1);
        due.is("NEWLEADER", x.down(1), 5);
        x.up(1);
        x.submit(0, 4, 0, 0, 1);
        due.is("COMMIT", x.down(1), 7);
        due.is("PROPOSE", x.down(1), 6);
    }

    private static void waiting(Sentences s) {
        s.under("Promise 21");
        s.test("How many messages wait on the link of a following server: up (true)", LinkSentences::waitingUp);
        s.test("or down (false)", LinkSentences::waitingDown);
        s.test("0 when it does not follow", due -> {
            for (int role : new int[] {0, 1, 3, 4}) {
                EpochTree x = Steps.inRole(role);
                due.is("up in role " + role, x.waiting(0, true), 0);
                due.is("down in role " + role, x.waiting(0, false), 0);
            }
            EpochTree x = busy();
            x.quit(1);
            due.is("up when it has stopped", x.waiting(1, true), 0);
            due.is("down when it has stopped", x.waiting(1, false), 0);
        });
        s.test("or there is none.", due -> {
            EpochTree x = busy();
            for (int server : Steps.NO_SERVERS) {
                due.is("up of " + server, x.waiting(server, true), 0);
                due.is("down of " + server, x.waiting(server, false), 0);
            }
        });
    }

    private static void waitingUp(Due due) {
        EpochTree x = Steps.established(0, 1);
        due.is("none", x.waiting(1, true), 0);
        Steps.fillTo(x, 0, 24);
        for (int i = 1; i <= 24; i++) {
            x.down(1);
            due.is("ACK", x.waiting(1, true), i);
        }
        for (int i = 23; i >= 0; i--) {
            x.up(1);
            due.is("ACK left", x.waiting(1, true), i);
        }
    }

    /** The fullest row down: a COMMIT for the first ACK, and a PROPOSE and a COMMIT for each of 24 entries. */
    private static void waitingDown(Due due) {
        EpochTree x = Steps.established(0, 1);
        Steps.accept(x, 2, 0);
        x.down(2);
        due.is("none", x.waiting(2, false), 0);
        x.up(2);
        for (int i = 1; i <= 24; i++) {
            x.submit(0, 2, 1, 0, -1);
            due.is("one PROPOSE more", x.waiting(2, false), 2 * i);
            Steps.settle(x, 1);
            due.is("one COMMIT more", x.waiting(2, false), 2 * i + 1);
        }
        for (int i = 48; i >= 0; i--) {
            x.down(2);
            due.is("messages left", x.waiting(2, false), i);
        }
    }
}

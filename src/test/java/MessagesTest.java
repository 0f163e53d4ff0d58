/** Promises 7, 8, 13, 14 and 21: the messages of a link, and what their reading does. */
public final class MessagesTest {
    private static final Due DUE = new Due("MessagesTest");

    public static void main(String[] args) {
        noMessages();
        plainJoining();
        epochAboveBothPromises();
        epochIsChosenOnce();
        oldEpochIsRefused();
        notFreshWaits();
        waitingEndsWithTheLink();
        freshAfterWaiting();
        laterAcceptedGetsTheList();
        listOfHigherEpoch();
        listOfHigherMark();
        ownListWhenNotBelow();
        ownListOfHigherEpoch();
        newLeaderIsTheListWhenSent();
        commitOnEveryTiedLink();
        firstAckOnly();
        nothingOnLinksNotTied();
        staleEntriesAreReplaced();
        waiting();
        DUE.end();
    }

    private static void noMessages() {
        EpochTree x = new EpochTree();
        for (int s : new int[] {-1, 0, 1, 2, 3, Integer.MIN_VALUE, Integer.MAX_VALUE}) {
            DUE.is("up without a link", x.up(s), 0);
            DUE.is("down without a link", x.down(s), 0);
            DUE.is("waiting up without a link", x.waiting(s, true), 0);
            DUE.is("waiting down without a link", x.waiting(s, false), 0);
        }
        for (int s : new int[] {-1, 3, Integer.MIN_VALUE, Integer.MAX_VALUE}) {
            DUE.is("promise of none", x.promise(s), EpochTree.BAD);
            DUE.is("epoch of none", x.epoch(s), EpochTree.BAD);
        }
        x.lead(0);
        DUE.is("up of a leader", x.up(0), 0);
        DUE.is("down of a leader", x.down(0), 0);
        x.crash(2);
        DUE.is("up of one that is down", x.up(2), 0);
        DUE.is("down of one that is down", x.down(2), 0);
    }

    private static void plainJoining() {
        EpochTree x = new EpochTree();
        x.lead(0);
        x.follow(1, 0);
        DUE.is("nothing down yet", x.down(1), 0);
        DUE.is("JOIN", x.up(1), 1);
        DUE.is("nothing up", x.up(1), 0);
        DUE.is("the leader's promise", x.promise(0), 1);
        DUE.is("the follower's promise is old", x.promise(1), 0);
        DUE.is("the leader's epoch is old", x.epoch(0), 0);
        DUE.is("NEWEPOCH", x.down(1), 4);
        DUE.is("the follower's promise", x.promise(1), 1);
        DUE.is("the follower's epoch is old", x.epoch(1), 0);
        DUE.is("ACCEPTED", x.up(1), 2);
        DUE.is("the leader's epoch", x.epoch(0), 1);
        DUE.is("the follower's epoch is still old", x.epoch(1), 0);
        DUE.is("NEWLEADER", x.down(1), 5);
        DUE.is("the follower's epoch", x.epoch(1), 1);
        DUE.is("ACK", x.up(1), 3);
        DUE.is("COMMIT", x.down(1), 7);
        DUE.is("no message down is left", x.down(1), 0);
        DUE.is("no message up is left", x.up(1), 0);
        DUE.is("the third server's promise", x.promise(2), 0);
        DUE.is("the third server's epoch", x.epoch(2), 0);
    }

    /** Leads with server 0 and lets 1 join up to NEWEPOCH: both then have this promise. */
    private static EpochTree promised(int promise) {
        EpochTree x = new EpochTree();
        for (int i = 0; i < promise; i++) {
            x.lead(0);
            x.follow(1, 0);
            x.up(1);
            x.down(1);
            x.quit(0);
        }
        return x;
    }

    private static void epochAboveBothPromises() {
        EpochTree x = promised(4);
        DUE.is("promise of the leader", x.promise(0), 4);
        DUE.is("promise of the follower", x.promise(1), 4);
        x.lead(2);
        x.follow(1, 2);
        x.up(1);
        DUE.is("1 more than the follower's", x.promise(2), 5);
        DUE.is("the follower's stays until it reads", x.promise(1), 4);
        EpochTree y = promised(4);
        y.lead(0);
        y.follow(2, 0);
        y.up(2);
        DUE.is("1 more than the leader's own", y.promise(0), 5);
        DUE.is("NEWEPOCH", y.down(2), 4);
        DUE.is("the follower's", y.promise(2), 5);
        EpochTree z = promised(2);
        z.lead(0);
        DUE.is("leading alone chooses nothing", z.promise(0), 2);
        z.follow(1, 0);
        DUE.is("nor does following", z.promise(0), 2);
    }

    private static void epochIsChosenOnce() {
        EpochTree x = new EpochTree();
        x.lead(0);
        x.follow(1, 0);
        x.follow(2, 0);
        x.up(1);
        x.up(2);
        DUE.is("chosen with the first JOIN", x.promise(0), 1);
        x.down(2);
        DUE.is("the other follower hears the same", x.promise(2), 1);
        x.quit(1);
        x.follow(1, 0);
        x.up(1);
        DUE.is("not chosen anew on a new link", x.promise(0), 1);
        x.quit(0);
        x.lead(0);
        x.follow(1, 0);
        x.up(1);
        DUE.is("chosen anew when it leads anew", x.promise(0), 2);
    }

    private static void oldEpochIsRefused() {
        EpochTree x = new EpochTree();
        x.lead(0);
        x.follow(1, 0);
        x.up(1);
        x.quit(1);
        x.lead(2);
        for (int i = 0; i < 2; i++) {
            x.follow(1, 2);
            x.up(1);
            x.down(1);
            x.quit(2);
            x.lead(2);
        }
        DUE.is("a higher promise", x.promise(1), 2);
        x.follow(1, 0);
        DUE.is("JOIN with the higher promise", x.up(1), 1);
        DUE.is("the leader keeps its epoch", x.promise(0), 1);
        DUE.is("NEWEPOCH below the promise", x.down(1), 4);
        DUE.is("it stops following", x.role(1), 1);
        DUE.is("its promise stays", x.promise(1), 2);
        DUE.is("no message is left", x.waiting(1, true), 0);
        DUE.is("no up", x.up(1), 0);
        DUE.is("the leader leads on", x.role(0), 3);
        DUE.yes("it can follow again", x.follow(1, 2));
    }

    /** Server 0 has chosen epoch 1, and 1 has promised it but its ACCEPTED is lost. */
    private static EpochTree withLostAccepted() {
        EpochTree x = new EpochTree();
        x.lead(0);
        x.follow(1, 0);
        x.up(1);
        x.down(1);
        x.quit(1);
        return x;
    }

    private static void notFreshWaits() {
        EpochTree x = withLostAccepted();
        x.follow(1, 0);
        x.up(1);
        DUE.is("NEWEPOCH that equals the promise", x.down(1), 4);
        DUE.is("it still follows", x.role(1), 2);
        DUE.is("ACCEPTED, not fresh", x.up(1), 2);
        DUE.is("no list is chosen", x.epoch(0), 0);
        DUE.is("NEWLEADER is not sent", x.down(1), 0);
        x.follow(2, 0);
        x.up(2);
        x.down(2);
        DUE.is("ACCEPTED, fresh", x.up(2), 2);
        DUE.is("the list is chosen", x.epoch(0), 1);
        DUE.is("NEWLEADER for the fresh one", x.waiting(2, false), 1);
        DUE.is("NEWLEADER for the waiting one", x.waiting(1, false), 1);
        DUE.is("it is NEWLEADER", x.down(1), 5);
        DUE.is("the waiting one's ACK", x.up(1), 3);
        DUE.is("establishes", x.role(0), 4);
        DUE.is("its first COMMIT", x.down(1), 7);
        DUE.is("no COMMIT for the other one", x.waiting(2, false), 1);
    }

    private static void waitingEndsWithTheLink() {
        EpochTree x = withLostAccepted();
        x.follow(1, 0);
        x.up(1);
        x.down(1);
        x.up(1);
        x.quit(1);
        x.follow(1, 0);
        x.follow(2, 0);
        x.up(2);
        x.down(2);
        x.up(2);
        DUE.is("a new link does not wait for the list", x.waiting(1, false), 0);
        DUE.is("JOIN first", x.up(1), 1);
        DUE.is("then NEWEPOCH", x.down(1), 4);
        DUE.is("then ACCEPTED", x.up(1), 2);
        DUE.is("then NEWLEADER", x.down(1), 5);
    }

    private static void freshAfterWaiting() {
        EpochTree x = withLostAccepted();
        x.follow(2, 0);
        x.up(2);
        x.down(2);
        x.follow(1, 0);
        x.up(1);
        x.down(1);
        DUE.is("a fresh ACCEPTED alone", x.up(2), 2);
        DUE.is("one that follows without waiting gets nothing", x.waiting(1, false), 0);
        DUE.is("a later ACCEPTED", x.up(1), 2);
        DUE.is("gets NEWLEADER, fresh or not", x.down(1), 5);
    }

    private static void laterAcceptedGetsTheList() {
        EpochTree x = Steps.established(0, 1);
        Steps.resultOf(x, 0, 1, 1, 1, 7, 0);
        x.submit(0, 1, 2, 8, 0);
        x.follow(2, 0);
        x.up(2);
        x.down(2);
        x.up(2);
        DUE.is("NEWLEADER", x.down(2), 5);
        DUE.is("with the whole list", x.length(2), 2);
        DUE.is("its marks", x.mark(2, 2), 1002);
        DUE.is("nothing applied by it", x.applied(2), 0);
        DUE.is("ACK(2)", x.up(2), 3);
        DUE.is("counts for the entry that was open", x.applied(0), 2);
        DUE.is("COMMIT", x.down(2), 7);
        DUE.is("all applied", x.applied(2), 2);
        DUE.is("once", x.down(2), 0);
    }

    private static void listOfHigherEpoch() {
        EpochTree x = Steps.established(0, 1);
        x.submit(0, 1, 1, 7, 0);
        x.submit(0, 1, 2, 7, 0);
        x.quit(0);
        // Server 0 has two entries of epoch 1; 1 and 2 go on without it, with one entry of epoch 2.
        x.lead(1);
        Steps.join(x, 2, 1);
        x.submit(1, 1, 3, 7, 0);
        Steps.settle(x, 2);
        x.quit(1);
        x.lead(0);
        x.follow(2, 0);
        x.up(2);
        DUE.is("the third epoch", x.promise(0), 3);
        x.down(2);
        DUE.is("own list before", x.length(0), 2);
        x.up(2);
        DUE.is("the list of the higher epoch", x.length(0), 1);
        DUE.is("its mark", x.mark(0, 1), 2001);
        DUE.is("the chosen epoch", x.epoch(0), 3);
        DUE.is("the follower's list stays", x.length(2), 1);
    }

    private static void listOfHigherMark() {
        EpochTree x = Steps.established(0, 1);
        x.submit(0, 1, 1, 7, 0);
        x.quit(0);
        DUE.is("equal epochs", x.epoch(0), x.epoch(1));
        x.lead(1);
        x.follow(0, 1);
        x.up(0);
        x.down(0);
        x.up(0);
        DUE.is("the list with the higher last mark", x.length(1), 1);
        DUE.is("its mark", x.mark(1, 1), 1001);
        DUE.is("nothing applied yet", x.applied(1), 0);
        x.down(0);
        x.up(0);
        DUE.is("the ACK of both applies it", x.applied(1), 1);
        DUE.is("its data came along", x.node(1, 1, 1), 7);
    }

    private static void ownListWhenNotBelow() {
        EpochTree x = Steps.established(0, 1);
        x.submit(0, 1, 1, 7, 0);
        x.down(1);
        x.submit(0, 1, 2, 7, 0);
        x.quit(0);
        x.lead(0);
        x.follow(1, 0);
        x.up(1);
        x.down(1);
        x.up(1);
        DUE.is("own list with the higher last mark", x.length(0), 2);
        x.down(1);
        DUE.is("is the follower's then", x.length(1), 2);
        EpochTree y = Steps.established(0, 1);
        y.submit(0, 1, 1, 7, 0);
        y.quit(0);
        y.lead(0);
        Steps.join(y, 2, 0);
        DUE.is("own list with the higher epoch", y.length(0), 1);
        DUE.is("and the follower has it", y.length(2), 1);
    }

    private static void ownListOfHigherEpoch() {
        EpochTree x = Steps.established(0, 1);
        x.submit(0, 1, 1, 7, 0);
        x.submit(0, 1, 2, 7, 0);
        x.quit(0);
        x.lead(1);
        Steps.join(x, 2, 1);
        x.quit(1);
        x.lead(1);
        x.follow(0, 1);
        x.up(0);
        x.down(0);
        DUE.is("the follower's epoch is lower", x.epoch(0), 1);
        DUE.is("its last mark is higher", x.mark(0, 2), 1002);
        DUE.is("the leader's epoch", x.epoch(1), 2);
        x.up(0);
        DUE.is("the epoch counts first: own list", x.length(1), 0);
        x.down(0);
        DUE.is("which the follower takes", x.length(0), 0);
        DUE.is("with the epoch", x.epoch(0), 3);
    }

    private static void newLeaderIsTheListWhenSent() {
        EpochTree x = Steps.established(0, 1);
        x.submit(0, 1, 1, 7, 0);
        x.follow(2, 0);
        x.up(2);
        x.down(2);
        x.up(2);
        x.submit(0, 1, 2, 8, 0);
        x.submit(0, 1, 3, 9, 0);
        DUE.is("NEWLEADER and two PROPOSE", x.waiting(2, false), 3);
        DUE.is("NEWLEADER", x.down(2), 5);
        DUE.is("the list as it was sent", x.length(2), 1);
        DUE.is("ACK", x.up(2), 3);
        DUE.is("is for one entry", x.applied(0), 1);
        DUE.is("PROPOSE", x.down(2), 6);
        DUE.is("one more", x.length(2), 2);
        DUE.is("in order", x.mark(2, 2), 1002);
        DUE.is("PROPOSE", x.down(2), 6);
        DUE.is("and one more", x.mark(2, 3), 1003);
        DUE.is("COMMIT(1)", x.down(2), 7);
        DUE.is("applies one", x.applied(2), 1);
        DUE.is("of the right data", x.node(2, 1, 1), 7);
    }

    private static void commitOnEveryTiedLink() {
        EpochTree x = Steps.established(0, 1);
        Steps.join(x, 2, 0);
        x.submit(0, 1, 1, 7, 0);
        DUE.is("PROPOSE to 1", x.waiting(1, false), 1);
        DUE.is("PROPOSE to 2", x.waiting(2, false), 1);
        x.down(1);
        x.up(1);
        DUE.is("two of three have it", x.applied(0), 1);
        DUE.is("COMMIT to 1", x.waiting(1, false), 1);
        DUE.is("COMMIT to 2", x.waiting(2, false), 2);
        DUE.is("PROPOSE first", x.down(2), 6);
        DUE.is("then COMMIT", x.down(2), 7);
        DUE.is("applied", x.applied(2), 1);
        DUE.is("the later ACK", x.up(2), 3);
        DUE.is("sends nothing to 2", x.waiting(2, false), 0);
        DUE.is("nor to 1", x.waiting(1, false), 1);
    }

    private static void firstAckOnly() {
        EpochTree x = Steps.established(0, 1);
        Steps.join(x, 2, 0);
        x.submit(0, 1, 1, 7, 0);
        x.submit(0, 1, 2, 7, 0);
        x.down(1);
        x.down(1);
        DUE.is("two ACK wait", x.waiting(1, true), 2);
        x.up(1);
        DUE.is("the first one applies one", x.applied(0), 1);
        x.up(1);
        DUE.is("the second one applies two", x.applied(0), 2);
        DUE.is("two COMMIT", x.waiting(1, false), 2);
        DUE.is("COMMIT(1)", x.down(1), 7);
        DUE.is("one applied", x.applied(1), 1);
        DUE.is("COMMIT(2)", x.down(1), 7);
        DUE.is("two applied", x.applied(1), 2);
        x.quit(2);
        Steps.join(x, 2, 0);
        DUE.is("a new link has a first ACK again", x.applied(2), 2);
    }

    private static void nothingOnLinksNotTied() {
        EpochTree x = Steps.established(0, 1);
        x.follow(2, 0);
        x.submit(0, 1, 1, 7, 0);
        DUE.is("no PROPOSE before NEWLEADER", x.waiting(2, false), 0);
        Steps.settle(x, 1);
        DUE.is("no COMMIT before NEWLEADER", x.waiting(2, false), 0);
        x.up(2);
        x.submit(0, 1, 2, 7, 0);
        DUE.is("NEWEPOCH alone", x.waiting(2, false), 1);
        x.down(2);
        x.up(2);
        x.submit(0, 1, 3, 7, 0);
        DUE.is("tied when NEWLEADER is sent", x.waiting(2, false), 2);
        x.quit(2);
        x.follow(2, 0);
        x.submit(0, 1, 4, 7, 0);
        DUE.is("a new link is not tied", x.waiting(2, false), 0);
    }

    private static void staleEntriesAreReplaced() {
        EpochTree x = Steps.established(0, 1);
        x.submit(0, 1, 1, 7, 0);
        x.submit(0, 1, 2, 7, 0);
        x.crash(0);
        x.lead(1);
        Steps.join(x, 2, 1);
        x.submit(1, 1, 5, 9, 0);
        Steps.settle(x, 2);
        x.restart(0);
        DUE.is("the old list", x.length(0), 2);
        Steps.join(x, 0, 1);
        DUE.is("the new list", x.length(0), 1);
        DUE.is("its mark", x.mark(0, 1), 2001);
        DUE.is("no second entry", x.mark(0, 2), 0);
        DUE.is("its tree", x.node(0, 5, 1), 9);
        DUE.is("without the old entries", x.tree(0), 1);
        DUE.is("promise", x.promise(0), 2);
        DUE.is("epoch", x.epoch(0), 2);
    }

    private static void waiting() {
        EpochTree x = Steps.established(2, 0);
        DUE.is("a leader has no link", x.waiting(2, true), 0);
        for (int i = 1; i <= 24; i++) {
            x.submit(2, 2, 1, i, -1);
        }
        DUE.is("24 PROPOSE", x.waiting(0, false), 24);
        for (int i = 1; i <= 24; i++) {
            DUE.is("PROPOSE", x.down(0), 6);
            DUE.is("length", x.length(0), i);
        }
        DUE.is("24 ACK", x.waiting(0, true), 24);
        DUE.is("nothing down", x.waiting(0, false), 0);
        for (int i = 1; i <= 24; i++) {
            DUE.is("ACK", x.up(0), 3);
            DUE.is("applied", x.applied(2), i);
        }
        DUE.is("24 COMMIT", x.waiting(0, false), 24);
        DUE.is("nothing up", x.waiting(0, true), 0);
        for (int i = 1; i <= 24; i++) {
            DUE.is("COMMIT", x.down(0), 7);
            DUE.is("applied by the follower", x.applied(0), i);
        }
        DUE.is("nothing is left", x.down(0), 0);
        fullestLink();
    }

    /** A link that is not read while the other one goes on holds NEWLEADER, 24 PROPOSE and 25 COMMIT. */
    private static void fullestLink() {
        EpochTree x = Steps.established(0, 1);
        x.follow(2, 0);
        x.up(2);
        x.down(2);
        x.up(2);
        x.down(2);
        x.up(2);
        DUE.is("the first COMMIT", x.waiting(2, false), 1);
        for (int i = 1; i <= 24; i++) {
            x.submit(0, 2, 1, i, -1);
            Steps.settle(x, 1);
        }
        DUE.is("24 PROPOSE and 25 COMMIT", x.waiting(2, false), 49);
        DUE.is("COMMIT(0)", x.down(2), 7);
        for (int i = 1; i <= 24; i++) {
            DUE.is("PROPOSE", x.down(2), 6);
            DUE.is("COMMIT", x.down(2), 7);
            DUE.is("applied", x.applied(2), i);
        }
        DUE.is("all are read", x.waiting(2, false), 0);
    }
}

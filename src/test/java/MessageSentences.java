/** The messages 1 to 7: what their reading does. */
final class MessageSentences {
    private MessageSentences() {
    }

    static void tests(Sentences s) {
        s.under("Terms");
        join(s);
        accepted(s);
        ack(s);
        newEpoch(s);
        newLeader(s);
        propose(s);
        commit(s);
    }

    private static void join(Sentences s) {
        s.noTest("Messages up, read by L:");
        s.test("1 JOIN(p), p being F's promise when it was sent.", MessageSentences::joinHasPromise);
        s.test("When L has not chosen an epoch yet, it chooses", MessageSentences::choosesOnce);
        s.test("1 more than the greater one of p and its own promise", MessageSentences::oneMore);
        s.test("and that is L's promise from then on.", MessageSentences::promiseFromThenOn);
        s.test("Then L sends NEWEPOCH with the chosen epoch to F.", MessageSentences::sendsNewEpoch);
    }

    private static void joinHasPromise(Due due) {
        EpochTree x = new EpochTree();
        Steps.chooseEpochs(x, 1, 2, 3);
        x.lead(0);
        x.follow(1, 0);
        due.is("JOIN", x.up(1), 1);
        due.is("chosen above the promise of 3", x.promise(0), 4);
        EpochTree y = new EpochTree();
        y.lead(0);
        y.follow(1, 0);
        due.is("JOIN", y.up(1), 1);
        due.is("chosen above the promise of 0", y.promise(0), 1);
    }

    private static void choosesOnce(Due due) {
        EpochTree x = new EpochTree();
        Steps.chooseEpochs(x, 2, 1, 3);
        x.lead(0);
        x.follow(1, 0);
        x.up(1);
        due.is("chosen", x.promise(0), 1);
        x.follow(2, 0);
        x.up(2);
        due.is("a JOIN with a higher promise comes too late", x.promise(0), 1);
        x.down(1);
        due.is("the first one hears of the choice", x.promise(1), 1);
    }

    private static void oneMore(Due due) {
        int[][] promises = {{0, 0, 1}, {1, 0, 2}, {0, 1, 2}, {1, 1, 2}, {3, 2, 4}, {2, 3, 4}, {3, 3, 4}};
        for (int[] p : promises) {
            EpochTree x = new EpochTree();
            Steps.chooseEpochs(x, 0, 2, p[0]);
            Steps.chooseEpochs(x, 1, 2, p[1]);
            x.lead(0);
            x.follow(1, 0);
            x.up(1);
            due.is("own promise " + p[0] + ", p " + p[1], x.promise(0), p[2]);
        }
    }

    private static void promiseFromThenOn(Due due) {
        EpochTree x = new EpochTree();
        x.lead(0);
        x.follow(1, 0);
        x.up(1);
        due.is("when JOIN is read", x.promise(0), 1);
        due.is("the follower's stays", x.promise(1), 0);
        x.quit(0);
        due.is("when it leads no more", x.promise(0), 1);
        x.crash(0);
        due.is("after a crash", x.promise(0), 1);
        x.restart(0);
        x.lead(2);
        x.follow(0, 2);
        x.up(0);
        due.is("it sends this promise", x.promise(2), 2);
    }

    private static void sendsNewEpoch(Due due) {
        EpochTree x = new EpochTree();
        Steps.chooseEpochs(x, 0, 2, 4);
        x.lead(0);
        x.follow(1, 0);
        x.follow(2, 0);
        x.up(1);
        due.is("one message", x.waiting(1, false), 1);
        due.is("to the other one none", x.waiting(2, false), 0);
        due.is("it is NEWEPOCH", x.down(1), 4);
        due.is("with the chosen epoch", x.promise(1), 5);
        x.up(2);
        due.is("also when it was chosen before", x.down(2), 4);
        due.is("with the same epoch", x.promise(2), 5);
    }

    private static void accepted(Sentences s) {
        s.test("2 ACCEPTED(fresh). When L has chosen its list already, L sends NEWLEADER to F.",
                MessageSentences::acceptedLater);
        s.test("Otherwise, when fresh is false, F is WAITING.", MessageSentences::notFreshWaits);
        s.test("Otherwise L chooses its list", MessageSentences::freshChooses);
        s.test("when F's epoch is above L's", MessageSentences::higherEpoch);
        s.test("or they are equal and the last mark of F's list is above that of L's list",
                MessageSentences::higherMark);
        s.test("(0 for an empty list)", MessageSentences::emptyListCounts0);
        s.test("L's list becomes that of F", MessageSentences::wholeListIsTaken);
        s.test("in any case L's epoch becomes the chosen one", MessageSentences::chosenEpochInAnyCase);
        s.test("and L sends NEWLEADER to F", MessageSentences::newLeaderToF);
        s.test("and to a follower that is WAITING.", MessageSentences::newLeaderToWaiting);
    }

    private static void acceptedLater(Due due) {
        EpochTree x = Steps.established(0, 1);
        x.follow(2, 0);
        x.up(2);
        x.down(2);
        due.is("ACCEPTED, fresh", x.up(2), 2);
        due.is("one message", x.waiting(2, false), 1);
        due.is("to the other one none", x.waiting(1, false), 0);
        due.is("NEWLEADER", x.down(2), 5);
        x.quit(1);
        Steps.accept(x, 1, 0);
        due.is("one message, not fresh", x.waiting(1, false), 1);
        due.is("NEWLEADER, not fresh", x.down(1), 5);
    }

    /** 1 has an entry of epoch 1; 0 has chosen epoch 2, which 1 has promised, but its ACCEPTED was lost. */
    private static EpochTree lostAccepted() {
        EpochTree x = Steps.established(1, 2);
        x.submit(1, 4, 0, 0, 1);
        x.quit(1);
        x.lead(0);
        x.follow(1, 0);
        x.up(1);
        x.down(1);
        x.quit(1);
        return x;
    }

    private static void notFreshWaits(Due due) {
        EpochTree x = lostAccepted();
        Steps.accept(x, 1, 0);
        due.is("the leader's epoch stays", x.epoch(0), 0);
        due.is("its list stays", x.length(0), 0);
        due.is("nothing is sent", x.waiting(1, false), 0);
        due.is("F follows on", x.role(1), 2);
        due.is("L is not established", x.role(0), 3);
        Steps.accept(x, 2, 0);
        due.is("it waited", x.waiting(1, false), 1);
    }

    private static void freshChooses(Due due) {
        EpochTree x = new EpochTree();
        x.lead(0);
        x.follow(1, 0);
        x.up(1);
        x.down(1);
        due.is("not before it is read", x.epoch(0), 0);
        x.up(1);
        due.is("chosen", x.epoch(0), 1);
        due.is("not established by it", x.role(0), 3);
    }

    private static void higherEpoch(Due due) {
        // 0 has an entry of epoch 1; 1 and 2 have epoch 2 and no entry.
        EpochTree x = Steps.established(0, 1);
        x.submit(0, 4, 0, 0, 1);
        x.quit(0);
        x.lead(1);
        Steps.join(x, 2, 1);
        x.quit(1);
        x.lead(0);
        due.is("entries of the lower epoch", x.length(0), 1);
        Steps.accept(x, 2, 0);
        due.is("the higher epoch counts before the mark", x.length(0), 0);
        // The other way: the leader has the higher epoch, the follower the higher mark.
        EpochTree y = Steps.established(0, 1);
        y.submit(0, 4, 0, 0, 1);
        y.quit(0);
        y.lead(1);
        Steps.join(y, 2, 1);
        y.quit(1);
        y.lead(2);
        Steps.accept(y, 0, 2);
        due.is("a lower epoch with a higher mark does not count", y.length(2), 0);
        EpochTree z = sameEpoch(1, 0);
        z.lead(0);
        Steps.accept(z, 1, 0);
        due.is("an equal epoch is not above", z.length(0), 1);
    }

    /** 0 and 1 have epoch 1; 0 has this many entries, 1 has the first ones of them. */
    private static EpochTree sameEpoch(int entries0, int entries1) {
        EpochTree x = Steps.established(0, 1);
        for (int i = 1; i <= entries0; i++) {
            x.submit(0, 4, 0, 0, i);
        }
        for (int i = 1; i <= entries1; i++) {
            x.down(1);
        }
        x.quit(0);
        return x;
    }

    private static void higherMark(Due due) {
        EpochTree x = sameEpoch(2, 1);
        due.is("epoch of 0", x.epoch(0), 1);
        due.is("epoch of 1", x.epoch(1), 1);
        x.lead(1);
        Steps.accept(x, 0, 1);
        due.is("1002 is above 1001", x.mark(1, 2), 1002);
        EpochTree y = sameEpoch(2, 1);
        y.lead(0);
        Steps.accept(y, 1, 0);
        due.is("1001 is not above 1002", y.length(0), 2);
        EpochTree z = sameEpoch(2, 2);
        z.lead(0);
        Steps.accept(z, 1, 0);
        due.is("1002 is not above 1002", z.length(0), 2);
    }

    private static void emptyListCounts0(Due due) {
        EpochTree x = sameEpoch(1, 0);
        x.lead(1);
        Steps.accept(x, 0, 1);
        due.is("1001 is above that of an empty list", x.length(1), 1);
        EpochTree y = sameEpoch(1, 0);
        y.lead(0);
        Steps.accept(y, 1, 0);
        due.is("that of an empty list is not above 1001", y.length(0), 1);
        EpochTree z = sameEpoch(0, 0);
        z.lead(0);
        Steps.accept(z, 1, 0);
        due.is("two empty lists", z.length(0), 0);
    }

    private static void wholeListIsTaken(Due due) {
        EpochTree x = Steps.established(0, 1);
        x.submit(0, 1, 1, -5, 0);
        x.submit(0, 1, 9, 6, 0);
        Steps.fillTo(x, 0, 24);
        x.quit(0);
        x.lead(1);
        Steps.accept(x, 0, 1);
        due.is("all 24 entries", x.length(1), 24);
        for (int k = 1; k <= 24; k++) {
            due.is("mark " + k, x.mark(1, k), 1000 + k);
        }
        due.is("none is applied by that", x.applied(1), 0);
        due.is("F keeps its own", x.length(0), 24);
        Steps.settle(x, 0);
        due.is("the data came along", x.node(1, 1, 1), -5);
        due.is("of the second one too", x.node(1, 9, 1), 6);
    }

    private static void chosenEpochInAnyCase(Due due) {
        EpochTree own = sameEpoch(1, 0);
        own.lead(0);
        Steps.accept(own, 1, 0);
        due.is("with its own list", own.epoch(0), 2);
        due.is("the follower's epoch stays", own.epoch(1), 1);
        EpochTree taken = sameEpoch(1, 0);
        taken.lead(1);
        Steps.accept(taken, 0, 1);
        due.is("with the list of F", taken.epoch(1), 2);
        EpochTree high = new EpochTree();
        Steps.chooseEpochs(high, 0, 1, 6);
        high.lead(0);
        Steps.accept(high, 1, 0);
        due.is("the chosen epoch, not one more than the last", high.epoch(0), 7);
    }

    private static void newLeaderToF(Due due) {
        EpochTree x = new EpochTree();
        x.lead(0);
        x.follow(2, 0);
        x.up(2);
        x.down(2);
        Steps.accept(x, 1, 0);
        due.is("one message", x.waiting(1, false), 1);
        due.is("none to one that does not wait", x.waiting(2, false), 0);
        due.is("NEWLEADER", x.down(1), 5);
    }

    private static void newLeaderToWaiting(Due due) {
        EpochTree x = lostAccepted();
        Steps.accept(x, 1, 0);
        Steps.accept(x, 2, 0);
        due.is("one message to F", x.waiting(2, false), 1);
        due.is("one message to the waiting one", x.waiting(1, false), 1);
        due.is("NEWLEADER to the waiting one", x.down(1), 5);
        due.is("its epoch", x.epoch(1), 2);
        due.is("its list is the chosen one", x.length(1), 0);
        due.is("its ACK", x.up(1), 3);
        x.submit(0, 4, 0, 0, 3);
        due.is("its link is tied: COMMIT and PROPOSE", x.waiting(1, false), 2);
        due.is("so is the other one: NEWLEADER and PROPOSE", x.waiting(2, false), 2);
    }

    private static void ack(Sentences s) {
        s.test("3 ACK(k). L is established from then on.", MessageSentences::ackEstablishes);
        s.test("When k is above the number of entries that L has applied, L applies its entries up to the k-th",
                MessageSentences::ackApplies);
        s.test("and sends COMMIT(k) on every tied link.", MessageSentences::ackCommits);
        s.test("Otherwise, when this is the first ACK that L reads on this link", MessageSentences::firstAckOnly);
        s.test("L sends COMMIT to F with the number of entries that L has applied.",
                MessageSentences::firstAckCommits);
    }

    private static void ackEstablishes(Due due) {
        EpochTree x = new EpochTree();
        x.lead(0);
        Steps.accept(x, 1, 0);
        x.down(1);
        due.is("not before ACK is read", x.role(0), 3);
        due.is("ACK(0)", x.up(1), 3);
        due.is("established", x.role(0), 4);
        x.quit(1);
        due.is("from then on, also without a follower", x.role(0), 4);
        Steps.join(x, 2, 0);
        due.is("and with another one", x.role(0), 4);
    }

    private static void ackApplies(Due due) {
        EpochTree x = sameEpoch(4, 0);
        x.lead(0);
        Steps.accept(x, 1, 0);
        x.down(1);
        due.is("none applied", x.applied(0), 0);
        x.up(1);
        due.is("ACK(4) applies four at once", x.applied(0), 4);
        due.is("in the tree", x.tree(0), 64 * 30);
        x.submit(0, 5, 0, 0, 1);
        x.submit(0, 5, 0, 0, 2);
        x.down(1);
        x.down(1);
        x.down(1);
        x.up(1);
        due.is("ACK(5) applies one, not all", x.applied(0), 5);
        x.quit(1);
        Steps.accept(x, 2, 0);
        x.down(2);
        x.up(2);
        due.is("ACK(6) of another one applies one more", x.applied(0), 6);
    }

    private static void ackCommits(Due due) {
        EpochTree x = Steps.established(0, 1);
        Steps.join(x, 2, 0);
        x.submit(0, 4, 0, 0, 1);
        x.submit(0, 4, 0, 0, 2);
        Steps.settle(x, 2);
        due.is("PROPOSE and COMMIT, twice, on the other link", x.waiting(1, false), 4);
        due.is("both applied by this one", x.applied(2), 2);
        x.down(1);
        x.down(1);
        x.down(1);
        due.is("COMMIT(1) on the other link", x.applied(1), 1);
        x.down(1);
        due.is("COMMIT(2) on the other link", x.applied(1), 2);
        EpochTree y = Steps.established(0, 1);
        y.follow(2, 0);
        y.submit(0, 4, 0, 0, 1);
        y.down(1);
        y.up(1);
        due.is("COMMIT on the tied link", y.waiting(1, false), 1);
        due.is("none on the one that is not tied", y.waiting(2, false), 0);
    }

    private static void firstAckOnly(Due due) {
        EpochTree x = Steps.established(0, 1);
        Steps.join(x, 2, 0);
        x.submit(0, 4, 0, 0, 1);
        Steps.settle(x, 1);
        x.down(2);
        x.down(2);
        due.is("ACK(1), not the first one, not above", x.up(2), 3);
        due.is("sends nothing", x.waiting(2, false), 0);
        x.quit(2);
        Steps.accept(x, 2, 0);
        x.down(2);
        x.up(2);
        due.is("the first one on a new link sends one", x.waiting(2, false), 1);
        // A first ACK that is above has its COMMIT already.
        EpochTree y = sameEpoch(1, 0);
        y.lead(0);
        Steps.accept(y, 1, 0);
        y.down(1);
        y.up(1);
        due.is("one COMMIT, not two", y.waiting(1, false), 1);
        y.submit(0, 4, 0, 0, 2);
        Steps.accept(y, 2, 0);
        y.down(2);
        y.up(2);
        due.is("ACK(2) came from the other one: PROPOSE, two COMMIT", y.waiting(1, false), 3);
        y.down(1);
        y.down(1);
        y.up(1);
        due.is("the second ACK of 1, not above, sends nothing", y.waiting(1, false), 1);
    }

    private static void firstAckCommits(Due due) {
        EpochTree x = new EpochTree();
        x.lead(0);
        Steps.accept(x, 1, 0);
        x.down(1);
        x.up(1);
        due.is("COMMIT(0)", x.down(1), 7);
        due.is("applies none", x.applied(1), 0);
        Steps.fillTo(x, 0, 1);
        Steps.accept(x, 2, 0);
        x.down(2);
        Steps.fillTo(x, 0, 2);
        Steps.settle(x, 1);
        due.is("PROPOSE, COMMIT(1), COMMIT(2) wait", x.waiting(2, false), 3);
        x.up(2);
        due.is("ACK(1) is below: one COMMIT to F", x.waiting(2, false), 4);
        due.is("none to the other one", x.waiting(1, false), 0);
        EpochTree y = sameEpoch(3, 3);
        y.lead(0);
        Steps.join(y, 2, 0);
        Steps.accept(y, 1, 0);
        y.down(1);
        y.up(1);
        due.is("nothing applied by F yet", y.applied(1), 0);
        y.down(1);
        due.is("COMMIT with all that L has applied", y.applied(1), 3);
    }

    private static void newEpoch(Sentences s) {
        s.noTest("Messages down, read by F:");
        s.test("4 NEWEPOCH(e). When e is below F's promise, F stops following.", MessageSentences::lowEpoch);
        s.test("Otherwise F's promise becomes e, and F sends ACCEPTED(fresh)", MessageSentences::promises);
        s.test("fresh is true when e was above the promise before.", MessageSentences::fresh);
    }

    /** 0 has chosen epoch 1; the promise of 2 is this. */
    private static EpochTree chosen1(int promise2) {
        EpochTree x = new EpochTree();
        Steps.chooseEpochs(x, 2, 1, promise2);
        x.lead(0);
        x.follow(1, 0);
        x.up(1);
        return x;
    }

    private static void lowEpoch(Due due) {
        for (int promise = 2; promise <= 3; promise++) {
            EpochTree x = chosen1(promise);
            x.follow(2, 0);
            x.up(2);
            due.is("NEWEPOCH", x.down(2), 4);
            due.is("it looks", x.role(2), 1);
            due.is("its promise stays", x.promise(2), promise);
            due.is("nothing is sent", x.waiting(2, true), 0);
            due.is("no up", x.up(2), 0);
            due.is("the leader leads on", x.role(0), 3);
            due.is("the other one follows on", x.role(1), 2);
        }
        EpochTree x = chosen1(1);
        x.follow(2, 0);
        x.up(2);
        x.down(2);
        due.is("an equal one is not below", x.role(2), 2);
    }

    private static void promises(Due due) {
        EpochTree x = new EpochTree();
        Steps.chooseEpochs(x, 0, 1, 3);
        x.lead(0);
        x.follow(1, 0);
        x.up(1);
        due.is("before it is read", x.promise(1), 0);
        x.down(1);
        due.is("the promise", x.promise(1), 4);
        due.is("the epoch is not touched", x.epoch(1), 0);
        due.is("one message", x.waiting(1, true), 1);
        due.is("ACCEPTED", x.up(1), 2);
        EpochTree y = chosen1(1);
        y.follow(2, 0);
        y.up(2);
        y.down(2);
        due.is("an equal promise stays", y.promise(2), 1);
        due.is("ACCEPTED is sent all the same", y.up(2), 2);
    }

    private static void fresh(Due due) {
        EpochTree equal = chosen1(1);
        Steps.accept(equal, 2, 0);
        due.is("equal is not fresh: nothing is chosen", equal.epoch(0), 0);
        EpochTree above = chosen1(0);
        Steps.accept(above, 2, 0);
        due.is("above is fresh: the list is chosen", above.epoch(0), 1);
        EpochTree again = chosen1(0);
        again.down(1);
        again.quit(1);
        Steps.accept(again, 1, 0);
        due.is("promised before on a link that was cut: not fresh", again.epoch(0), 0);
    }

    private static void newLeader(Sentences s) {
        s.test("5 NEWLEADER: the list of L as it is when this is sent", MessageSentences::listWhenSent);
        s.test("of n entries", MessageSentences::noneOr24Entries);
        s.test("F's epoch becomes its promise", MessageSentences::epochBecomesPromise);
        s.test("F's list becomes that list", MessageSentences::listIsReplaced);
        s.test("and F sends ACK(n).", MessageSentences::acksLength);
    }

    private static void listWhenSent(Due due) {
        EpochTree x = Steps.established(0, 1);
        x.submit(0, 1, 1, 7, 0);
        Steps.accept(x, 2, 0);
        x.submit(0, 1, 2, 8, 0);
        x.submit(0, 1, 3, 9, 0);
        due.is("NEWLEADER", x.down(2), 5);
        due.is("one entry then", x.length(2), 1);
        due.is("its mark", x.mark(2, 1), 1001);
        x.down(2);
        due.is("the next one by PROPOSE", x.length(2), 2);
    }

    private static void noneOr24Entries(Due due) {
        EpochTree x = Steps.established(0, 1);
        Steps.accept(x, 2, 0);
        x.down(2);
        due.is("no entry", x.length(2), 0);
        due.is("ACK all the same", x.waiting(2, true), 1);
        x.quit(2);
        Steps.fillTo(x, 0, 24);
        Steps.accept(x, 2, 0);
        x.down(2);
        due.is("24 entries", x.length(2), 24);
        due.is("the last mark", x.mark(2, 24), 1024);
    }

    private static void epochBecomesPromise(Due due) {
        EpochTree x = new EpochTree();
        Steps.chooseEpochs(x, 0, 1, 2);
        x.lead(0);
        Steps.accept(x, 1, 0);
        due.is("before", x.epoch(1), 0);
        x.down(1);
        due.is("after", x.epoch(1), 3);
        due.is("the promise", x.promise(1), 3);
    }

    private static void listIsReplaced(Due due) {
        EpochTree x = Steps.established(0, 1);
        Steps.fillTo(x, 0, 5);
        x.quit(0);
        x.lead(1);
        Steps.join(x, 2, 1);
        x.submit(1, 1, 1, 6, 0);
        Steps.settle(x, 2);
        Steps.accept(x, 0, 1);
        due.is("five entries of the old epoch", x.length(0), 5);
        x.down(0);
        due.is("one entry", x.length(0), 1);
        due.is("its mark", x.mark(0, 1), 2001);
        due.is("no second one", x.mark(0, 2), 0);
        Steps.settle(x, 0);
        due.is("its change", x.node(0, 1, 1), 6);
    }

    private static void acksLength(Due due) {
        EpochTree x = sameEpoch(3, 0);
        x.lead(0);
        Steps.accept(x, 1, 0);
        x.down(1);
        due.is("one message", x.waiting(1, true), 1);
        due.is("ACK", x.up(1), 3);
        due.is("of three entries", x.applied(0), 3);
        // Three entries were sent, a fourth one is made before NEWLEADER is read.
        EpochTree y = Steps.established(0, 1);
        Steps.fillTo(y, 0, 3);
        Steps.accept(y, 2, 0);
        Steps.fillTo(y, 0, 4);
        y.down(2);
        y.up(2);
        due.is("of three entries, not four", y.applied(0), 3);
    }

    private static void propose(Sentences s) {
        s.test("6 PROPOSE: an entry. F appends it to its list", MessageSentences::appends);
        s.test("and sends ACK with the number of entries that its list then has.", MessageSentences::acksNumber);
    }

    private static void appends(Due due) {
        EpochTree x = Steps.established(0, 1);
        Steps.fillTo(x, 0, 24);
        for (int k = 1; k <= 24; k++) {
            due.is("PROPOSE " + k, x.down(1), 6);
            due.is("length", x.length(1), k);
            due.is("mark", x.mark(1, k), 1000 + k);
            due.is("nothing is applied", x.applied(1), 0);
        }
    }

    private static void acksNumber(Due due) {
        EpochTree x = sameEpoch(2, 0);
        x.lead(0);
        Steps.join(x, 1, 0);
        x.submit(0, 4, 0, 0, 3);
        x.down(1);
        due.is("one message", x.waiting(1, true), 1);
        due.is("ACK", x.up(1), 3);
        due.is("ACK(3), not ACK(1)", x.applied(0), 3);
        Steps.fillTo(x, 0, 24);
        Steps.settle(x, 1);
        due.is("up to ACK(24)", x.applied(0), 24);
    }

    private static void commit(Sentences s) {
        s.test("7 COMMIT(k): F applies its entries up to the k-th", MessageSentences::appliesUpTo);
        s.test("(those that it has not applied yet).", MessageSentences::appliesOnce);
        s.test("(Lists never differ in entries that were applied", MessageSentences::appliedAreTheSame);
        s.test("so what is applied stays applied when a list is replaced.)", MessageSentences::staysApplied);
    }

    private static void appliesUpTo(Due due) {
        EpochTree x = sameEpoch(3, 0);
        x.lead(0);
        Steps.accept(x, 1, 0);
        x.down(1);
        x.up(1);
        x.submit(0, 4, 0, 0, 4);
        due.is("COMMIT(3)", x.down(1), 7);
        due.is("three applied at once", x.applied(1), 3);
        due.is("in the tree", x.tree(1), 64 * 14);
        x.submit(0, 5, 0, 0, 1);
        x.down(1);
        x.down(1);
        x.up(1);
        due.is("COMMIT(4)", x.down(1), 7);
        due.is("one more, not all that it has", x.applied(1), 4);
        EpochTree y = Steps.established(0, 1);
        Steps.fillTo(y, 0, 24);
        Steps.settle(y, 1);
        due.is("up to the 24th", y.applied(1), 24);
    }

    private static void appliesOnce(Due due) {
        EpochTree x = Steps.established(0, 1);
        x.submit(0, 1, 1, 5, 0);
        x.submit(0, 2, 1, 6, -1);
        Steps.settle(x, 1);
        x.quit(1);
        Steps.accept(x, 1, 0);
        x.down(1);
        x.up(1);
        due.is("COMMIT(2) again", x.down(1), 7);
        due.is("still two applied", x.applied(1), 2);
        due.is("the version grew once", x.node(1, 1, 2), 1);
        due.is("result 1", x.result(1, 1), 0);
        due.is("result 2", x.result(1, 2), 0);
        x.submit(0, 2, 1, 7, -1);
        Steps.settle(x, 1);
        due.is("COMMIT(3) applies the third one alone", x.node(1, 1, 2), 2);
        due.is("three applied", x.applied(1), 3);
    }

    private static void appliedAreTheSame(Due due) {
        EpochTree x = Steps.established(0, 1);
        x.submit(0, 1, 1, 5, 0);
        Steps.settle(x, 1);
        x.submit(0, 1, 2, 6, 0);
        x.crash(0);
        x.lead(1);
        Steps.join(x, 2, 1);
        x.submit(1, 1, 3, 7, 0);
        Steps.settle(x, 2);
        x.restart(0);
        Steps.join(x, 0, 1);
        for (int server = 0; server < 3; server++) {
            due.is("applied at " + server, x.applied(server), 2);
            due.is("first mark at " + server, x.mark(server, 1), 1001);
            due.is("second mark at " + server, x.mark(server, 2), 2001);
            due.is("tree at " + server, x.tree(server), 2);
        }
    }

    private static void staysApplied(Due due) {
        EpochTree x = Steps.established(0, 1);
        x.submit(0, 1, 1, 5, 0);
        x.submit(0, 2, 1, 6, 1);
        Steps.settle(x, 1);
        x.quit(1);
        Steps.accept(x, 1, 0);
        x.down(1);
        due.is("applied by a follower", x.applied(1), 2);
        due.is("its tree", x.tree(1), 1);
        due.is("its node", x.node(1, 1, 1), 5);
        due.is("its result 1", x.result(1, 1), 0);
        due.is("its result 2", x.result(1, 2), 5);
        // 0 has a third entry when 1 begins to lead.
        x.submit(0, 2, 1, 7, -1);
        x.quit(0);
        x.lead(1);
        Steps.accept(x, 0, 1);
        due.is("the new leader takes the longer list", x.length(1), 3);
        due.is("applied by it", x.applied(1), 2);
        due.is("its data", x.node(1, 1, 1), 5);
        x.down(0);
        x.up(0);
        due.is("the third one is applied to what was there", x.node(1, 1, 1), 7);
        due.is("once", x.node(1, 1, 2), 1);
    }
}

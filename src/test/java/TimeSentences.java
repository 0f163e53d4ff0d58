/** Time, and the promises 10 and 11. */
final class TimeSentences {
    private TimeSentences() {
    }

    static void tests(Sentences s) {
        time(s);
        tick(s);
        touch(s);
    }

    /** Server 0 is established with the follower 1, and these sessions are open at both. */
    private static EpochTree withOpen(int... sessions) {
        EpochTree x = Steps.established(0, 1);
        for (int session : sessions) {
            Steps.resultOf(x, 0, 1, 4, 0, 0, session);
        }
        return x;
    }

    private static void ticks(Due due, EpochTree x, int... made) {
        for (int i = 0; i < made.length; i++) {
            due.is("tick " + (i + 1) + " of " + made.length, x.tick(), made[i]);
        }
    }

    private static void time(Sentences s) {
        s.under("Terms");
        s.test("TIME. An established leader keeps an AGE for each session", TimeSentences::agesOfItsOwn);
        s.test("0 when it becomes established.", TimeSentences::youngWhenEstablished);
        s.test("At a tick the age of each session that is open in its tree grows by 1", TimeSentences::growsBy1);
        s.test("but not above 3", TimeSentences::notAbove3);
        s.test("that of the others becomes 0", TimeSentences::othersBecome0);
        s.test("then, for each session whose age is 3", TimeSentences::eachOfAge3);
        s.test("the lowest first", TimeSentences::lowestFirst);
        s.test("when its list has fewer than 24 entries", TimeSentences::fewerThan24);
        s.test("it makes the entry CLOSE of that session", TimeSentences::makesClose);
        s.test("and the age is 0.", TimeSentences::ageIs0ByClose);
    }

    private static void agesOfItsOwn(Due due) {
        // 0 and 1 are established leaders, both with session 1 open.
        EpochTree x = withOpen(1);
        x.quit(1);
        ticks(due, x, 0, 0);
        x.lead(1);
        Steps.join(x, 2, 1);
        ticks(due, x, 1);
        due.is("made by 0", x.length(0), 2);
        due.is("not by 1", x.length(1), 1);
        ticks(due, x, 0, 1);
        due.is("now by 1", x.length(1), 2);
    }

    private static void youngWhenEstablished(Due due) {
        EpochTree x = withOpen(1);
        ticks(due, x, 0, 0);
        x.quit(0);
        x.lead(0);
        Steps.join(x, 1, 0);
        ticks(due, x, 0, 0, 1);
        EpochTree y = withOpen(1);
        ticks(due, y, 0, 0);
        Steps.resultOf(y, 0, 1, 1, 1, 0, 0);
        Steps.join(y, 2, 0);
        // It has read more ACK, but it was established already.
        ticks(due, y, 1);
    }

    private static void growsBy1(Due due) {
        for (int session = 1; session <= 4; session++) {
            ticks(due, withOpen(session), 0, 0, 1);
        }
        EpochTree x = Steps.established(0, 1);
        x.submit(0, 4, 0, 0, 1);
        ticks(due, x, 0, 0, 0, 0);
        x.down(1);
        ticks(due, x, 0, 0, 0, 0);
        x.up(1);
        due.is("open in the leader's tree, not in the follower's", x.tree(1), 0);
        ticks(due, x, 0, 0, 1);
    }

    private static void notAbove3(Due due) {
        EpochTree x = withOpen(1, 2);
        Steps.fillTo(x, 0, 24);
        ticks(due, x, 0, 0, 0, 0, 0, 0, 0);
        due.is("24 entries", x.length(0), 24);
        due.is("both are open", x.tree(0), 64 * 6);
        due.yes("touch", x.touch(0, 1));
        ticks(due, x, 0, 0, 0, 0);
        EpochTree y = withOpen(1);
        Steps.fillTo(y, 0, 23);
        ticks(due, y, 0, 0, 1);
        due.is("3 itself is reached", y.length(0), 24);
    }

    private static void othersBecome0(Due due) {
        EpochTree x = withOpen(1, 2);
        ticks(due, x, 0, 0);
        Steps.resultOf(x, 0, 1, 5, 0, 0, 1);
        ticks(due, x, 1);
        due.is("that was session 2", x.length(0), 4);
        Steps.resultOf(x, 0, 1, 4, 0, 0, 1);
        // Session 1 was not open at the last tick, so its age began anew.
        ticks(due, x, 0, 0, 1);
    }

    private static void eachOfAge3(Due due) {
        EpochTree x = withOpen(1, 2, 3, 4);
        ticks(due, x, 0, 0, 4);
        due.is("four entries more", x.length(0), 8);
        EpochTree y = withOpen(3);
        ticks(due, y, 0);
        Steps.resultOf(y, 0, 1, 4, 0, 0, 1);
        ticks(due, y, 0, 1, 1);
        Steps.settle(y, 1);
        due.is("both are closed", y.tree(0), 0);
    }

    private static void lowestFirst(Due due) {
        EpochTree x = withOpen(4, 2, 3, 1);
        ticks(due, x, 0, 0, 4);
        int[] open = {64 * 28, 64 * 24, 64 * 16, 0};
        for (int i = 0; i < 4; i++) {
            x.down(1);
        }
        for (int i = 0; i < 4; i++) {
            x.up(1);
            due.is("open after CLOSE " + (i + 1), x.tree(0), open[i]);
        }
    }

    private static void fewerThan24(Due due) {
        EpochTree one = withOpen(1);
        Steps.fillTo(one, 0, 23);
        ticks(due, one, 0, 0, 1);
        due.is("23 entries and one more", one.length(0), 24);
        EpochTree none = withOpen(1);
        Steps.fillTo(none, 0, 24);
        ticks(due, none, 0, 0, 0);
        due.is("24 entries stay 24", none.length(0), 24);
        due.is("no message for a CLOSE", none.waiting(1, false), 23);
        EpochTree lowest = withOpen(2, 3);
        Steps.fillTo(lowest, 0, 23);
        ticks(due, lowest, 0, 0, 1, 0, 0, 0);
        Steps.settle(lowest, 1);
        due.is("room for the lowest one alone", lowest.tree(0), 64 * 8);
        EpochTree two = withOpen(1, 2, 4);
        Steps.fillTo(two, 0, 22);
        ticks(due, two, 0, 0, 2, 0);
        Steps.settle(two, 1);
        due.is("room for two", two.tree(0), 64 * 16);
    }

    private static void makesClose(Due due) {
        EpochTree x = withOpen(2, 3);
        Steps.resultOf(x, 0, 1, 1, 1, 5, 2);
        Steps.resultOf(x, 0, 1, 1, 2, 5, 3);
        ticks(due, x, 0, 0);
        x.touch(0, 3);
        ticks(due, x, 1);
        due.is("the next mark", x.mark(0, 5), 1005);
        due.is("PROPOSE", x.waiting(1, false), 1);
        due.is("open until it is applied", x.tree(0), 2 + 64 * 12);
        Steps.settle(x, 1);
        due.is("its result", x.result(1, 5), 0);
        due.is("2 is closed, its node is gone", x.tree(1), 1 + 64 * 8);
        due.is("the node of 3 stays", x.node(1, 2, 4), 3);
    }

    private static void ageIs0ByClose(Due due) {
        EpochTree x = withOpen(1);
        ticks(due, x, 0, 0, 1, 0, 0, 1, 0, 0, 1);
        Steps.settle(x, 1);
        due.is("the first CLOSE", x.result(0, 2), 0);
        due.is("the second one", x.result(0, 3), 6);
        due.is("the third one", x.result(0, 4), 6);
        ticks(due, x, 0, 0, 0, 0);
    }

    private static void tick(Sentences s) {
        s.under("Promise 10");
        s.test("A tick, for every established leader, 0 first.", TimeSentences::everyLeader);
        s.test("Answers how many entries were made by it.", TimeSentences::answersMade);
    }

    private static void everyLeader(Due due) {
        EpochTree x = withOpen(1, 2);
        x.quit(1);
        x.lead(1);
        Steps.join(x, 2, 1);
        ticks(due, x, 0, 0, 4);
        due.is("two by 0", x.length(0), 4);
        due.is("two by 1", x.length(1), 4);
        due.is("marks of 0", x.mark(0, 4), 1004);
        due.is("marks of 1", x.mark(1, 4), 2002);
        EpochTree y = withOpen(1);
        y.quit(0);
        ticks(due, y, 0, 0, 0, 0);
        y.lead(0);
        Steps.accept(y, 1, 0);
        // Leading, with the session open in its tree, but not established.
        ticks(due, y, 0, 0, 0, 0);
        due.is("nothing was made", y.length(0), 1);
        due.is("nor by its follower", y.length(1), 1);
    }

    private static void answersMade(Due due) {
        due.is("nobody leads", new EpochTree().tick(), 0);
        due.is("no session", Steps.established(0, 1).tick(), 0);
        ticks(due, withOpen(1), 0, 0, 1);
        ticks(due, withOpen(1, 3), 0, 0, 2);
        ticks(due, withOpen(1, 2, 3, 4), 0, 0, 4);
        // Three leaders cannot be established at once, but two can: their entries are added up.
        EpochTree x = withOpen(1, 2);
        x.quit(1);
        x.lead(1);
        Steps.join(x, 2, 1);
        ticks(due, x, 0, 0);
        x.touch(0, 1);
        ticks(due, x, 3);
    }

    private static void touch(Sentences s) {
        s.under("Promise 11");
        s.test("The age of a session becomes 0 at an established leader in whose tree it is open: true.",
                TimeSentences::touchMakesYoung);
        s.test("False otherwise.", TimeSentences::touchRefused);
    }

    private static void touchMakesYoung(Due due) {
        for (int session = 1; session <= 4; session++) {
            EpochTree x = withOpen(session);
            ticks(due, x, 0, 0);
            due.yes("touch", x.touch(0, session));
            ticks(due, x, 0, 0);
            due.yes("touch again", x.touch(0, session));
            ticks(due, x, 0, 0, 1);
        }
        EpochTree x = withOpen(1, 2);
        ticks(due, x, 0, 0);
        due.yes("touch one of two", x.touch(0, 1));
        ticks(due, x, 1, 0, 1);
        EpochTree two = withOpen(1);
        two.quit(1);
        two.lead(1);
        Steps.join(two, 2, 1);
        ticks(due, two, 0, 0);
        due.yes("touch at one of two leaders", two.touch(1, 1));
        ticks(due, two, 1);
        due.is("the other one made the entry", two.length(0), 2);
    }

    private static void touchRefused(Due due) {
        EpochTree x = withOpen(1, 4);
        ticks(due, x, 0, 0);
        for (int session : new int[] {0, -1, 5, 2, 3, 31, 32, 33, 36, Integer.MIN_VALUE, Integer.MAX_VALUE}) {
            due.no("session " + session, x.touch(0, session));
        }
        for (int server : new int[] {1, 2, -1, 3, Integer.MIN_VALUE, Integer.MAX_VALUE}) {
            due.no("server " + server, x.touch(server, 1));
        }
        ticks(due, x, 2);
        x.submit(0, 4, 0, 0, 2);
        due.no("made but not applied: not open", x.touch(0, 2));
        x.quit(0);
        due.no("one that looks", x.touch(0, 1));
        x.lead(0);
        Steps.accept(x, 1, 0);
        due.no("one that leads, not established", x.touch(0, 1));
        x.down(1);
        x.up(1);
        due.no("established, but closed by now", x.touch(0, 1));
        due.yes("established, and open by now", x.touch(0, 2));
        x.crash(0);
        due.no("one that is down", x.touch(0, 2));
    }
}

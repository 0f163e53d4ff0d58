/** Promises 10 and 11: ticks, the ages of sessions, and touching them. */
public final class TimeTest {
    private static final Due DUE = new Due("TimeTest");

    public static void main(String[] args) {
        thirdTickCloses();
        notAppliedIsNotOpen();
        touchMakesYoung();
        touchRefused();
        severalSessions();
        fullListKeepsAge();
        oneRoomInTheList();
        closedSessionIsYoungAgain();
        newTermMakesYoung();
        ackDoesNotMakeYoung();
        onlyEstablishedLeaders();
        twoLeaders();
        DUE.end();
    }

    private static EpochTree withOpen(int... sessions) {
        EpochTree x = Steps.established(0, 1);
        for (int session : sessions) {
            DUE.is("OPEN", Steps.resultOf(x, 0, 1, 4, 0, 0, session), 0);
        }
        return x;
    }

    private static void thirdTickCloses() {
        EpochTree x = withOpen(2);
        Steps.resultOf(x, 0, 1, 1, 1, 5, 2);
        DUE.is("first tick", x.tick(), 0);
        DUE.is("second tick", x.tick(), 0);
        DUE.is("third tick", x.tick(), 1);
        DUE.is("one entry more", x.length(0), 3);
        DUE.is("with the next mark", x.mark(0, 3), 1003);
        DUE.is("PROPOSE", x.waiting(1, false), 1);
        DUE.is("open until it is applied", x.tree(0), 1 + 64 * 4);
        DUE.is("the age is 0: fourth tick", x.tick(), 0);
        DUE.is("fifth tick", x.tick(), 0);
        DUE.is("sixth tick closes again", x.tick(), 1);
        Steps.settle(x, 1);
        DUE.is("closed", x.result(0, 3), 0);
        DUE.is("closed already", x.result(0, 4), 6);
        DUE.is("its nodes are gone", x.tree(1), 0);
        for (int i = 0; i < 4; i++) {
            DUE.is("no session, no entry", x.tick(), 0);
        }
    }

    private static void notAppliedIsNotOpen() {
        EpochTree x = Steps.established(0, 1);
        x.submit(0, 4, 0, 0, 1);
        for (int i = 0; i < 5; i++) {
            DUE.is("not applied, not open", x.tick(), 0);
        }
        DUE.no("nor touched", x.touch(0, 1));
        Steps.settle(x, 1);
        DUE.yes("applied and touched", x.touch(0, 1));
    }

    private static void touchMakesYoung() {
        EpochTree x = withOpen(3);
        x.tick();
        x.tick();
        DUE.yes("touch", x.touch(0, 3));
        DUE.is("one after touch", x.tick(), 0);
        DUE.is("two after touch", x.tick(), 0);
        DUE.is("three after touch", x.tick(), 1);
        DUE.yes("touch while CLOSE is under way", x.touch(0, 3));
    }

    private static void touchRefused() {
        EpochTree x = withOpen(1, 4);
        x.tick();
        x.tick();
        for (int session : new int[] {0, 2, 3, 5, -1, 32, 33, 36, Integer.MIN_VALUE, Integer.MAX_VALUE}) {
            DUE.no("session " + session, x.touch(0, session));
        }
        for (int server : new int[] {1, 2, 3, -1, Integer.MIN_VALUE, Integer.MAX_VALUE}) {
            DUE.no("server " + server, x.touch(server, 1));
        }
        DUE.is("no age was changed", x.tick(), 2);
        x.quit(0);
        DUE.no("no leader", x.touch(0, 1));
        x.lead(0);
        x.follow(1, 0);
        x.up(1);
        DUE.no("not established", x.touch(0, 1));
    }

    private static void severalSessions() {
        EpochTree x = withOpen(4, 1);
        x.tick();
        Steps.resultOf(x, 0, 1, 4, 0, 0, 2);
        x.tick();
        DUE.is("1 and 4", x.tick(), 2);
        DUE.is("then 2", x.tick(), 1);
        x.down(1);
        x.up(1);
        DUE.is("the lowest first", x.tree(0), 64 * (4 + 16));
        DUE.is("the next PROPOSE", x.down(1), 6);
        x.up(1);
        DUE.is("then 4", x.tree(0), 64 * 4);
        Steps.settle(x, 1);
        DUE.is("then 2", x.tree(0), 0);
    }

    private static void fullListKeepsAge() {
        EpochTree x = withOpen(1);
        Steps.fillTo(x, 0, 24);
        for (int i = 0; i < 6; i++) {
            DUE.is("full: no CLOSE", x.tick(), 0);
        }
        DUE.is("24 entries", x.length(0), 24);
        DUE.yes("still open", x.touch(0, 1));
    }

    private static void oneRoomInTheList() {
        EpochTree x = withOpen(1, 2, 3);
        Steps.fillTo(x, 0, 22);
        x.tick();
        x.tick();
        DUE.is("room for two of three", x.tick(), 2);
        DUE.is("24 entries", x.length(0), 24);
        DUE.is("no room any more", x.tick(), 0);
        Steps.settle(x, 1);
        DUE.is("the lowest two are closed", x.tree(0), 64 * 8);
    }

    private static void closedSessionIsYoungAgain() {
        EpochTree x = withOpen(1);
        x.tick();
        x.tick();
        Steps.resultOf(x, 0, 1, 5, 0, 0, 1);
        x.tick();
        Steps.resultOf(x, 0, 1, 4, 0, 0, 1);
        DUE.is("first tick of the new one", x.tick(), 0);
        DUE.is("second", x.tick(), 0);
        DUE.is("third", x.tick(), 1);
        EpochTree y = withOpen(1);
        y.tick();
        y.tick();
        Steps.resultOf(y, 0, 1, 5, 0, 0, 1);
        Steps.resultOf(y, 0, 1, 4, 0, 0, 1);
        DUE.is("closed and opened between two ticks: the age goes on", y.tick(), 1);
    }

    private static void newTermMakesYoung() {
        EpochTree x = withOpen(1);
        x.tick();
        x.tick();
        x.quit(0);
        x.lead(0);
        for (int i = 0; i < 4; i++) {
            DUE.is("no tick for a leader not established", x.tick(), 0);
        }
        Steps.join(x, 1, 0);
        DUE.is("one", x.tick(), 0);
        DUE.is("two", x.tick(), 0);
        DUE.is("three", x.tick(), 1);
    }

    private static void ackDoesNotMakeYoung() {
        EpochTree x = withOpen(1);
        x.tick();
        x.tick();
        Steps.resultOf(x, 0, 1, 1, 1, 1, 0);
        Steps.join(x, 2, 0);
        DUE.is("a later ACK changes no age", x.tick(), 1);
    }

    private static void onlyEstablishedLeaders() {
        EpochTree x = new EpochTree();
        DUE.is("all looking", x.tick(), 0);
        x = withOpen(1);
        x.quit(0);
        for (int i = 0; i < 4; i++) {
            DUE.is("no leader", x.tick(), 0);
        }
        DUE.is("nothing was made", x.length(0), 1);
        DUE.is("nor at the follower", x.length(1), 1);
    }

    private static void twoLeaders() {
        EpochTree x = withOpen(1, 2);
        x.quit(1);
        x.lead(1);
        Steps.join(x, 2, 1);
        DUE.is("0 is established", x.role(0), 4);
        DUE.is("1 is established", x.role(1), 4);
        x.tick();
        DUE.yes("touch at one of them", x.touch(0, 1));
        x.tick();
        DUE.is("2 at 0, both at 1", x.tick(), 3);
        DUE.is("entries of 0", x.length(0), 3);
        DUE.is("entries of 1", x.length(1), 4);
        DUE.is("mark at 0", x.mark(0, 3), 1003);
        DUE.is("mark at 1", x.mark(1, 4), 2002);
        DUE.is("PROPOSE to the follower of 1 alone", x.waiting(2, false), 2);
    }
}

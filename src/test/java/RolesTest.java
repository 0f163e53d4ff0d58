/** Promises 1 to 6 and 12: a new object, and how servers come into their roles. */
public final class RolesTest {
    private static final Due DUE = new Due("RolesTest");

    public static void main(String[] args) {
        newObject();
        lead();
        follow();
        quitOfFollower();
        quitOfLeader();
        quitKeepsApplied();
        crashOfFollower();
        crashOfLeader();
        crashKeepsWhatLasts();
        restart();
        noSuchServer();
        roles();
        DUE.end();
    }

    private static void newObject() {
        EpochTree x = new EpochTree();
        for (int s = 0; s < 3; s++) {
            DUE.is("new role", x.role(s), 1);
            DUE.is("new promise", x.promise(s), 0);
            DUE.is("new epoch", x.epoch(s), 0);
            DUE.is("new length", x.length(s), 0);
            DUE.is("new applied", x.applied(s), 0);
            DUE.is("new tree", x.tree(s), 0);
            DUE.is("new mark", x.mark(s, 1), 0);
            DUE.is("new waiting up", x.waiting(s, true), 0);
            DUE.is("new waiting down", x.waiting(s, false), 0);
        }
    }

    private static void lead() {
        EpochTree x = new EpochTree();
        DUE.yes("lead when looking", x.lead(2));
        DUE.is("leads", x.role(2), 3);
        DUE.no("lead when leading", x.lead(2));
        x.follow(0, 2);
        DUE.no("lead when following", x.lead(0));
        DUE.is("still follows", x.role(0), 2);
        Steps.settle(x, 0);
        DUE.is("established", x.role(2), 4);
        DUE.no("lead when established", x.lead(2));
        DUE.is("still established", x.role(2), 4);
        x.crash(1);
        DUE.no("lead when down", x.lead(1));
        DUE.is("still down", x.role(1), 0);
        DUE.is("leading alone chooses no epoch", new EpochTree().promise(0), 0);
        EpochTree two = new EpochTree();
        DUE.yes("one leader", two.lead(0));
        DUE.yes("two leaders at once", two.lead(1));
    }

    private static void follow() {
        EpochTree x = new EpochTree();
        DUE.no("follow one that looks", x.follow(0, 1));
        DUE.no("follow itself", x.follow(0, 0));
        x.lead(1);
        DUE.no("a leader follows itself", x.follow(1, 1));
        DUE.yes("follow a leader", x.follow(0, 1));
        DUE.is("follows", x.role(0), 2);
        DUE.is("JOIN is sent", x.waiting(0, true), 1);
        DUE.is("nothing down", x.waiting(0, false), 0);
        DUE.is("the leader stays", x.role(1), 3);
        DUE.no("follow when following", x.follow(0, 1));
        DUE.is("no second JOIN", x.waiting(0, true), 1);
        DUE.no("follow a follower", x.follow(2, 0));
        Steps.settle(x, 0);
        DUE.yes("follow an established leader", x.follow(2, 1));
        x.quit(2);
        x.crash(2);
        DUE.no("follow when down", x.follow(2, 1));
        x.restart(2);
        x.lead(2);
        DUE.no("a leader follows another one", x.follow(2, 1));
        x.quit(2);
        x.crash(1);
        DUE.no("follow one that is down", x.follow(2, 1));
    }

    private static void quitOfFollower() {
        EpochTree x = Steps.established(0, 1);
        DUE.no("quit when looking", x.quit(2));
        x.submit(0, 1, 1, 5, 0);
        DUE.is("PROPOSE waits", x.waiting(1, false), 1);
        DUE.yes("a follower quits", x.quit(1));
        DUE.is("it looks", x.role(1), 1);
        DUE.is("its leader leads on", x.role(0), 4);
        DUE.is("no down", x.down(1), 0);
        DUE.no("quit again", x.quit(1));
        x.follow(1, 0);
        DUE.is("the old messages are lost", x.waiting(1, false), 0);
        DUE.is("JOIN alone is there", x.waiting(1, true), 1);
        DUE.is("and it is JOIN", x.up(1), 1);
        x.quit(1);
        x.crash(2);
        DUE.no("quit when down", x.quit(2));
    }

    private static void quitOfLeader() {
        EpochTree x = Steps.established(1, 0);
        x.follow(2, 1);
        DUE.yes("a leader quits", x.quit(1));
        DUE.is("it looks", x.role(1), 1);
        DUE.is("its follower looks", x.role(0), 1);
        DUE.is("its new follower looks", x.role(2), 1);
        DUE.is("no message up", x.waiting(2, true), 0);
        DUE.is("no up", x.up(2), 0);
        EpochTree two = new EpochTree();
        two.lead(0);
        two.lead(1);
        two.follow(2, 1);
        two.quit(0);
        DUE.is("a follower of another one stays", two.role(2), 2);
        DUE.is("with its messages", two.waiting(2, true), 1);
    }

    private static void quitKeepsApplied() {
        EpochTree x = Steps.established(0, 1);
        Steps.resultOf(x, 0, 1, 1, 1, 5, 0);
        x.quit(0);
        for (int s = 0; s < 2; s++) {
            DUE.is("applied after quit", x.applied(s), 1);
            DUE.is("tree after quit", x.tree(s), 1);
            DUE.is("result after quit", x.result(s, 1), 0);
        }
    }

    private static void crashOfFollower() {
        EpochTree x = Steps.established(0, 1);
        Steps.resultOf(x, 0, 1, 1, 1, 5, 0);
        x.submit(0, 1, 2, 5, 0);
        DUE.yes("a follower crashes", x.crash(1));
        DUE.is("it is down", x.role(1), 0);
        DUE.is("its leader leads on", x.role(0), 4);
        DUE.is("nothing applied", x.applied(1), 0);
        DUE.is("the tree is empty", x.tree(1), 0);
        DUE.is("no result", x.result(1, 1), -1);
        DUE.is("no waiting message", x.waiting(1, false), 0);
        DUE.is("the leader keeps its tree", x.tree(0), 1);
        DUE.no("crash when down", x.crash(1));
    }

    private static void crashOfLeader() {
        EpochTree x = Steps.established(0, 1);
        x.follow(2, 0);
        DUE.yes("a leader crashes", x.crash(0));
        DUE.is("it is down", x.role(0), 0);
        DUE.is("its follower looks", x.role(1), 1);
        DUE.is("the other one too", x.role(2), 1);
        DUE.is("its messages are lost", x.waiting(2, true), 0);
        DUE.yes("crash when looking", x.crash(1));
    }

    private static void crashKeepsWhatLasts() {
        EpochTree x = Steps.established(0, 1);
        Steps.resultOf(x, 0, 1, 4, 0, 0, 3);
        Steps.resultOf(x, 0, 1, 1, 1, 5, 3);
        x.crash(1);
        DUE.is("promise", x.promise(1), 1);
        DUE.is("epoch", x.epoch(1), 1);
        DUE.is("length", x.length(1), 2);
        DUE.is("mark", x.mark(1, 2), 1002);
        x.restart(1);
        DUE.is("promise after restart", x.promise(1), 1);
        DUE.is("length after restart", x.length(1), 2);
        DUE.is("applied after restart", x.applied(1), 0);
        DUE.is("sessions after restart", x.tree(1), 0);
        Steps.join(x, 1, 0);
        DUE.is("applied again", x.applied(1), 2);
        DUE.is("the tree again", x.tree(1), 1 + 64 * 8);
        DUE.is("the owner again", x.node(1, 1, 4), 3);
    }

    private static void restart() {
        EpochTree x = new EpochTree();
        DUE.no("restart when looking", x.restart(0));
        x.lead(0);
        DUE.no("restart when leading", x.restart(0));
        x.follow(1, 0);
        DUE.no("restart when following", x.restart(1));
        DUE.is("still follows", x.role(1), 2);
        Steps.settle(x, 1);
        DUE.no("restart when established", x.restart(0));
        x.crash(0);
        DUE.yes("restart when down", x.restart(0));
        DUE.is("looks", x.role(0), 1);
        DUE.no("restart again", x.restart(0));
        DUE.yes("leads again", x.lead(0));
    }

    private static void noSuchServer() {
        EpochTree x = Steps.established(0, 1);
        for (int s : Steps.NO_SERVERS) {
            DUE.no("lead of none", x.lead(s));
            DUE.no("follow of none", x.follow(s, 0));
            DUE.no("follow none", x.follow(2, s));
            DUE.no("quit of none", x.quit(s));
            DUE.no("crash of none", x.crash(s));
            DUE.no("restart of none", x.restart(s));
            DUE.is("role of none", x.role(s), EpochTree.BAD);
        }
        DUE.is("nothing changed at 0", x.role(0), 4);
        DUE.is("nothing changed at 1", x.role(1), 2);
        DUE.is("nothing changed at 2", x.role(2), 1);
    }

    private static void roles() {
        EpochTree x = new EpochTree();
        x.crash(2);
        x.lead(0);
        x.follow(1, 0);
        DUE.is("DOWN", x.role(2), 0);
        DUE.is("FOLLOWING", x.role(1), 2);
        for (int i = 0; i < 2; i++) {
            x.up(1);
            DUE.is("not established yet", x.role(0), 3);
            x.down(1);
        }
        DUE.is("not before the ACK is read", x.role(0), 3);
        x.up(1);
        DUE.is("ESTABLISHED", x.role(0), 4);
        x.quit(1);
        DUE.is("established without a follower", x.role(0), 4);
        x.quit(0);
        x.lead(0);
        DUE.is("leads anew, not established", x.role(0), 3);
    }
}

import java.util.ArrayList;
import java.util.List;
import java.util.function.ToLongFunction;

/**
 * What is refused changes nothing: a refused call is put into a long run, before each of its calls in turn, and
 * all answers behind it must be those of the run without it.
 */
final class RefusalSentences {
    record Call(String name, ToLongFunction<EpochTree> on) {
        long ask(EpochTree x) {
            return on.applyAsLong(x);
        }
    }

    /** A call with the answer that it must have where it is refused. */
    record Refused(Call call, long answer) {
    }

    private interface Chooser {
        void add(List<Refused> to, EpochTree x);
    }

    private static final List<Call> RUN = run();

    private RefusalSentences() {
    }

    static void tests(Sentences s) {
        s.under("Terms");
        s.test("A call whose server is not 0, 1 or 2 is refused", due -> putIn(due, RefusalSentences::noServer));
        s.test("and so is one that is not allowed in the server's role", due -> putIn(due, RefusalSentences::byRole));
        s.test("what is refused changes nothing.", due -> {
            putIn(due, RefusalSentences::noMessage);
            putIn(due, RefusalSentences::badNumbers);
            putIn(due, RefusalSentences::fullList);
            putIn(due, RefusalSentences::noOpenSession);
        });
    }

    private static Call lead(int server) {
        return new Call("lead(" + server + ")", x -> x.lead(server) ? 1 : 0);
    }

    private static Call follow(int server, int leader) {
        return new Call("follow(" + server + ", " + leader + ")", x -> x.follow(server, leader) ? 1 : 0);
    }

    private static Call quit(int server) {
        return new Call("quit(" + server + ")", x -> x.quit(server) ? 1 : 0);
    }

    private static Call crash(int server) {
        return new Call("crash(" + server + ")", x -> x.crash(server) ? 1 : 0);
    }

    private static Call restart(int server) {
        return new Call("restart(" + server + ")", x -> x.restart(server) ? 1 : 0);
    }

    private static Call up(int server) {
        return new Call("up(" + server + ")", x -> x.up(server));
    }

    private static Call down(int server) {
        return new Call("down(" + server + ")", x -> x.down(server));
    }

    private static Call submit(int server, int kind, int path, int b) {
        return new Call("submit(" + server + ", " + kind + ", " + path + ", 5, " + b + ")",
                x -> x.submit(server, kind, path, 5, b));
    }

    private static Call touch(int server, int session) {
        return new Call("touch(" + server + ", " + session + ")", x -> x.touch(server, session) ? 1 : 0);
    }

    private static void addTicks(List<Call> run, int count) {
        for (int i = 0; i < count; i++) {
            run.add(new Call("tick()", EpochTree::tick));
        }
    }

    /** Reads as many messages as a new link takes until nothing waits, then one COMMIT. */
    private static void addJoin(List<Call> run, int follower, int leader) {
        run.add(follow(follower, leader));
        for (int i = 0; i < 3; i++) {
            run.add(up(follower));
            run.add(down(follower));
        }
    }

    /** What can be seen of each server; the entries and nodes are those that the run can have. */
    private static void addLook(List<Call> run) {
        for (int i = 0; i < 3; i++) {
            int server = i;
            run.add(new Call("role", x -> x.role(server)));
            run.add(new Call("promise", x -> x.promise(server)));
            run.add(new Call("epoch", x -> x.epoch(server)));
            run.add(new Call("last mark", x -> x.mark(server, x.length(server))));
            run.add(new Call("last result", x -> x.result(server, x.applied(server))));
            run.add(new Call("tree", x -> x.tree(server)));
            run.add(new Call("data", x -> x.node(server, 1, 1)));
            run.add(new Call("waiting up", x -> x.waiting(server, true)));
            run.add(new Call("waiting down", x -> x.waiting(server, false)));
        }
    }

    /** All roles, messages, ages and a full list come up in it; with its looks it stays below 512 calls. */
    private static List<Call> run() {
        List<Call> run = new ArrayList<>();
        addFirstTerm(run);
        addSecondTerm(run);
        addFullList(run);
        addLook(run);
        return run;
    }

    private static void addFirstTerm(List<Call> run) {
        run.add(lead(0));
        run.add(crash(2));
        addJoin(run, 1, 0);
        run.add(submit(0, 4, 0, 1));
        run.add(submit(0, 1, 1, 1));
        run.add(down(1));
        run.add(down(1));
        run.add(up(1));
        run.add(up(1));
        addTicks(run, 2);
        run.add(restart(2));
        addJoin(run, 2, 0);
        run.add(touch(0, 1));
        addTicks(run, 3);
        run.add(submit(0, 2, 1, -1));
        addLook(run);
    }

    /** Server 1 leads beside 0; 0 gives up and comes to it, first with an ACCEPTED that is not fresh. */
    private static void addSecondTerm(List<Call> run) {
        run.add(quit(1));
        run.add(lead(1));
        run.add(quit(0));
        run.add(follow(0, 1));
        run.add(up(0));
        run.add(down(0));
        run.add(quit(0));
        run.add(follow(0, 1));
        run.add(up(0));
        run.add(down(0));
        run.add(up(0));
        addJoin(run, 2, 1);
        addLook(run);
        for (int i = 0; i < 4; i++) {
            run.add(down(0));
            run.add(up(0));
        }
        addTicks(run, 2);
    }

    private static void addFullList(List<Call> run) {
        run.add(submit(1, 4, 0, 3));
        run.add(down(2));
        run.add(up(2));
        for (int i = 0; i < 20; i++) {
            run.add(submit(1, 2, 1, -1));
        }
        addTicks(run, 3);
        run.add(down(2));
        run.add(crash(0));
        run.add(touch(1, 3));
        run.add(submit(1, 2, 1, -1));
        addLook(run);
        for (int i = 0; i < 3; i++) {
            run.add(down(2));
            run.add(up(2));
        }
    }

    private static void putIn(Due due, Chooser chooser) {
        long[] plain = new long[RUN.size()];
        EpochTree x = new EpochTree();
        for (int i = 0; i < plain.length; i++) {
            plain[i] = RUN.get(i).ask(x);
        }
        int tried = 0;
        for (int at = 0; at < plain.length; at++) {
            List<Refused> refused = new ArrayList<>();
            chooser.add(refused, before(at));
            for (Refused r : refused) {
                tried++;
                runWith(due, r, at, plain);
            }
        }
        due.yes("there was a call to refuse", tried > 0);
    }

    private static EpochTree before(int at) {
        EpochTree x = new EpochTree();
        for (int i = 0; i < at; i++) {
            RUN.get(i).ask(x);
        }
        return x;
    }

    private static void runWith(Due due, Refused refused, int at, long[] plain) {
        EpochTree x = before(at);
        String what = refused.call.name + " before call " + at;
        due.is(what, refused.call.ask(x), refused.answer);
        for (int i = at; i < plain.length; i++) {
            long answer = RUN.get(i).ask(x);
            if (answer != plain[i]) {
                due.is(what + ": then " + RUN.get(i).name + " at " + i, answer, plain[i]);
                return;
            }
        }
    }

    private static void noServer(List<Refused> to, EpochTree x) {
        for (int none : new int[] {-1, 3}) {
            for (Call call : List.of(lead(none), quit(none), crash(none), restart(none), up(none), down(none),
                    follow(none, 0), follow(0, none), follow(1, none), follow(2, none), touch(none, 1))) {
                to.add(new Refused(call, 0));
            }
            to.add(new Refused(submit(none, 4, 0, 2), EpochTree.BAD));
        }
    }

    private static void byRole(List<Refused> to, EpochTree x) {
        for (int server = 0; server < 3; server++) {
            int role = x.role(server);
            addIf(to, role != Steps.LOOKING, lead(server));
            addIf(to, role < Steps.FOLLOWING, quit(server));
            addIf(to, role == Steps.DOWN, crash(server));
            addIf(to, role != Steps.DOWN, restart(server));
            addIf(to, role != Steps.FOLLOWING, up(server));
            addIf(to, role != Steps.FOLLOWING, down(server));
            addIf(to, role != Steps.ESTABLISHED, touch(server, 1));
            for (int leader = 0; leader < 3; leader++) {
                addIf(to, role != Steps.LOOKING || x.role(leader) < Steps.LEADING, follow(server, leader));
            }
            if (role != Steps.ESTABLISHED) {
                to.add(new Refused(submit(server, 4, 0, 2), EpochTree.IDLE));
            }
        }
    }

    private static void addIf(List<Refused> to, boolean refused, Call call) {
        if (refused) {
            to.add(new Refused(call, 0));
        }
    }

    private static void noMessage(List<Refused> to, EpochTree x) {
        for (int server = 0; server < 3; server++) {
            addIf(to, x.waiting(server, true) == 0, up(server));
            addIf(to, x.waiting(server, false) == 0, down(server));
        }
    }

    private static void badNumbers(List<Refused> to, EpochTree x) {
        for (int server = 0; server < 3; server++) {
            for (Call call : List.of(submit(server, 0, 1, 1), submit(server, 6, 1, 1), submit(server, 1, 8, 0),
                    submit(server, 2, 0, 0), submit(server, 3, 512, 0), submit(server, 1, 1, 5),
                    submit(server, 2, 1, -2), submit(server, 4, 1, 0), submit(server, 5, 1, 5))) {
                to.add(new Refused(call, EpochTree.BAD));
            }
        }
    }

    private static void fullList(List<Refused> to, EpochTree x) {
        for (int server = 0; server < 3; server++) {
            if (x.role(server) == Steps.ESTABLISHED && x.length(server) == 24) {
                to.add(new Refused(submit(server, 5, 0, 1), EpochTree.FULL));
            }
        }
    }

    private static void noOpenSession(List<Refused> to, EpochTree x) {
        for (int server = 0; server < 3; server++) {
            addIf(to, x.role(server) == Steps.ESTABLISHED, touch(server, 0));
            addIf(to, x.role(server) == Steps.ESTABLISHED, touch(server, 5));
            for (int session = 1; session <= 4; session++) {
                addIf(to, (x.tree(server) / 64 >> session) % 2 == 0, touch(server, session));
            }
        }
    }
}

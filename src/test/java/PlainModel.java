import java.util.ArrayDeque;
import java.util.ArrayList;
import java.util.List;
import java.util.TreeMap;

/**
 * The document's words once more, in the most literal form: messages hold copies of what they carry,
 * and a tree is made anew from the applied entries whenever it is asked for.
 */
final class PlainModel {
    record Entry(int mark, int kind, int path, int a, int b) {
    }

    record Message(int kind, int number, boolean fresh, List<Entry> list) {
    }

    static final class Node {
        int data;
        int version;
        int owner;
    }

    static final class State {
        final TreeMap<Integer, Node> nodes = new TreeMap<>();
        final boolean[] open = new boolean[5];
        final List<Integer> results = new ArrayList<>();

        boolean there(int path) {
            return path == 0 || nodes.containsKey(path);
        }

        int children(int path) {
            int n = 0;
            for (int digit = 1; digit <= 7; digit++) {
                n += nodes.containsKey(path * 8 + digit) ? 1 : 0;
            }
            return n;
        }

        void apply(Entry e) {
            results.add(change(e));
        }

        private int change(Entry e) {
            Node n = nodes.get(e.path);
            if (e.kind == 1) {
                if (e.b != 0 && !open[e.b]) return 6;
                if (n != null) return 2;
                if (!there(e.path / 8)) return 1;
                if (e.path / 8 != 0 && nodes.get(e.path / 8).owner != 0) return 3;
                Node made = new Node();
                made.data = e.a;
                made.owner = e.b;
                nodes.put(e.path, made);
                return 0;
            }
            if (e.kind == 2 || e.kind == 3) {
                if (n == null) return 1;
                if (e.b != -1 && e.b != n.version) return 5;
                if (e.kind == 2) {
                    n.data = e.a;
                    n.version++;
                    return 0;
                }
                if (children(e.path) != 0) return 4;
                nodes.remove(e.path);
                return 0;
            }
            if (e.kind == 4) {
                if (open[e.b]) return 2;
                open[e.b] = true;
                return 0;
            }
            if (!open[e.b]) return 6;
            nodes.values().removeIf(node -> node.owner == e.b);
            open[e.b] = false;
            return 0;
        }
    }

    static final class Link {
        final int leader;
        final ArrayDeque<Message> up = new ArrayDeque<>();
        final ArrayDeque<Message> down = new ArrayDeque<>();
        boolean tied;
        boolean acked;
        boolean waiting;

        Link(int leader) {
            this.leader = leader;
        }
    }

    static final class Server {
        int promise;
        int epoch;
        List<Entry> list = new ArrayList<>();
        int role = 1;
        int applied;
        Link link;
        int chosenEpoch = -1;
        boolean listChosen;
        int made;
        int[] ages = new int[5];

        State state() {
            State state = new State();
            for (int i = 0; i < applied; i++) {
                state.apply(list.get(i));
            }
            return state;
        }

        int lastMark() {
            return list.isEmpty() ? 0 : list.get(list.size() - 1).mark;
        }
    }

    final Server[] servers = {new Server(), new Server(), new Server()};
    /** What the document says in brackets: a list that is replaced never loses or changes an applied entry. */
    boolean appliedChanged;

    private Server at(int server) {
        return server < 0 || server > 2 ? null : servers[server];
    }

    private int roleOf(int server) {
        Server s = at(server);
        return s == null ? -1 : s.role;
    }

    boolean lead(int server) {
        if (roleOf(server) != 1) return false;
        Server s = at(server);
        s.role = 3;
        s.chosenEpoch = -1;
        s.listChosen = false;
        s.made = 0;
        return true;
    }

    boolean follow(int server, int leader) {
        if (roleOf(server) != 1 || roleOf(leader) < 3) return false;
        Server s = at(server);
        s.role = 2;
        s.link = new Link(leader);
        s.link.up.add(new Message(1, s.promise, false, null));
        return true;
    }

    private void stop(int server) {
        for (Server s : servers) {
            if (s.role == 2 && s.link.leader == server) {
                s.role = 1;
                s.link = null;
            }
        }
        at(server).role = 1;
        at(server).link = null;
    }

    boolean quit(int server) {
        if (roleOf(server) < 2) return false;
        stop(server);
        return true;
    }

    boolean crash(int server) {
        if (roleOf(server) < 1) return false;
        stop(server);
        at(server).role = 0;
        at(server).applied = 0;
        return true;
    }

    boolean restart(int server) {
        if (roleOf(server) != 0) return false;
        at(server).role = 1;
        return true;
    }

    int up(int server) {
        if (roleOf(server) != 2) return 0;
        Server f = at(server);
        Server l = at(f.link.leader);
        Message m = f.link.up.poll();
        if (m == null) return 0;
        if (m.kind == 1) {
            if (l.chosenEpoch < 0) {
                l.chosenEpoch = 1 + Math.max(m.number, l.promise);
                l.promise = l.chosenEpoch;
            }
            f.link.down.add(new Message(4, l.chosenEpoch, false, null));
        } else if (m.kind == 2) {
            if (l.listChosen) {
                newLeader(l, f);
            } else if (!m.fresh) {
                f.link.waiting = true;
            } else {
                l.listChosen = true;
                if (f.epoch > l.epoch || f.epoch == l.epoch && f.lastMark() > l.lastMark()) {
                    replace(l, f.list);
                }
                l.epoch = l.chosenEpoch;
                newLeader(l, f);
                for (Server s : servers) {
                    if (s.role == 2 && at(s.link.leader) == l && s.link.waiting) newLeader(l, s);
                }
            }
        } else {
            if (l.role == 3) {
                l.role = 4;
                l.ages = new int[5];
            }
            boolean first = !f.link.acked;
            f.link.acked = true;
            if (m.number > l.applied) {
                l.applied = m.number;
                onTied(l, new Message(7, m.number, false, null));
            } else if (first) {
                f.link.down.add(new Message(7, l.applied, false, null));
            }
        }
        return m.kind;
    }

    private void replace(Server s, List<Entry> list) {
        for (int i = 0; i < s.applied; i++) {
            if (i >= list.size() || !list.get(i).equals(s.list.get(i))) appliedChanged = true;
        }
        s.list = new ArrayList<>(list);
    }

    private void newLeader(Server l, Server f) {
        f.link.waiting = false;
        f.link.tied = true;
        f.link.down.add(new Message(5, 0, false, List.copyOf(l.list)));
    }

    private void onTied(Server l, Message m) {
        for (Server s : servers) {
            if (s.role == 2 && at(s.link.leader) == l && s.link.tied) s.link.down.add(m);
        }
    }

    int down(int server) {
        if (roleOf(server) != 2) return 0;
        Server f = at(server);
        Message m = f.link.down.poll();
        if (m == null) return 0;
        if (m.kind == 4) {
            if (m.number < f.promise) {
                stop(server);
            } else {
                f.link.up.add(new Message(2, 0, m.number > f.promise, null));
                f.promise = m.number;
            }
        } else if (m.kind == 5) {
            f.epoch = f.promise;
            replace(f, m.list);
            f.link.up.add(new Message(3, m.list.size(), false, null));
        } else if (m.kind == 6) {
            f.list.add(m.list.get(0));
            f.link.up.add(new Message(3, f.list.size(), false, null));
        } else {
            f.applied = Math.max(f.applied, m.number);
        }
        return m.kind;
    }

    private void make(Server l, int kind, int path, int a, int b) {
        l.made++;
        Entry e = new Entry(1000 * l.epoch + l.made, kind, path, a, b);
        l.list.add(e);
        onTied(l, new Message(6, 0, false, List.of(e)));
    }

    static boolean isPath(int path) {
        return path >= 1 && path <= 511 && Integer.toOctalString(path).indexOf('0') < 0;
    }

    int submit(int server, int kind, int path, int a, int b) {
        if (at(server) == null || kind < 1 || kind > 5) return -1;
        if (kind <= 3 && !isPath(path)) return -1;
        if (kind == 1 && (b < 0 || b > 4)) return -1;
        if ((kind == 2 || kind == 3) && b < -1) return -1;
        if (kind >= 4 && (b < 1 || b > 4)) return -1;
        if (roleOf(server) != 4) return -2;
        if (at(server).list.size() >= 24) return -3;
        make(at(server), kind, path, a, b);
        return at(server).list.size();
    }

    int tick() {
        int made = 0;
        for (Server s : servers) {
            if (s.role != 4) continue;
            State state = s.state();
            for (int i = 1; i <= 4; i++) {
                s.ages[i] = state.open[i] ? Math.min(3, s.ages[i] + 1) : 0;
            }
            for (int i = 1; i <= 4; i++) {
                if (s.ages[i] == 3 && s.list.size() < 24) {
                    make(s, 5, 0, 0, i);
                    s.ages[i] = 0;
                    made++;
                }
            }
        }
        return made;
    }

    boolean touch(int server, int session) {
        if (roleOf(server) != 4 || session < 1 || session > 4 || !at(server).state().open[session]) return false;
        at(server).ages[session] = 0;
        return true;
    }

    int role(int server) {
        return roleOf(server);
    }

    int promise(int server) {
        return at(server) == null ? -1 : at(server).promise;
    }

    int epoch(int server) {
        return at(server) == null ? -1 : at(server).epoch;
    }

    int length(int server) {
        return at(server) == null ? -1 : at(server).list.size();
    }

    int mark(int server, int k) {
        return at(server) == null || k < 1 || k > at(server).list.size() ? 0 : at(server).list.get(k - 1).mark;
    }

    int applied(int server) {
        return at(server) == null ? -1 : at(server).applied;
    }

    int result(int server, int k) {
        return at(server) == null || k < 1 || k > at(server).applied ? -1 : at(server).state().results.get(k - 1);
    }

    int node(int server, int path, int which) {
        if (at(server) == null) return 0;
        State state = at(server).state();
        if (!state.there(path)) return 0;
        Node n = path == 0 ? new Node() : state.nodes.get(path);
        return switch (which) {
            case 0 -> 1;
            case 1 -> n.data;
            case 2 -> n.version;
            case 3 -> state.children(path);
            case 4 -> n.owner;
            default -> 0;
        };
    }

    int tree(int server) {
        if (at(server) == null) return -1;
        State state = at(server).state();
        int answer = state.nodes.size();
        for (int s = 1; s <= 4; s++) {
            answer += state.open[s] ? 64 << s : 0;
        }
        return answer;
    }

    int waiting(int server, boolean up) {
        if (roleOf(server) != 2) return 0;
        return up ? at(server).link.up.size() : at(server).link.down.size();
    }
}

import java.util.Arrays;

/** Three servers that keep one tree of nodes; the document's promises 1 to 21. */
public final class EpochTree {
    public static final int BAD = -1;
    public static final int IDLE = -2;
    public static final int FULL = -3;

    private static final int SERVERS = 3;
    private static final int MOST_ENTRIES = 24;
    private static final int LAST_SESSION = 4;
    private static final int OLD_AGE = 3;
    private static final int LAST_PATH = 511;
    private static final int MARKS_PER_EPOCH = 1000;
    private static final int NONE = -1;

    private static final int IS_DOWN = 0;
    private static final int IS_LOOKING = 1;
    private static final int IS_FOLLOWING = 2;
    private static final int IS_LEADING = 3;
    private static final int IS_ESTABLISHED = 4;

    private static final int JOIN = 1;
    private static final int ACCEPTED = 2;
    private static final int ACK = 3;
    private static final int NEWEPOCH = 4;
    private static final int NEWLEADER = 5;
    private static final int PROPOSE = 6;
    private static final int COMMIT = 7;

    // One link carries in its whole life at most one JOIN, one ACCEPTED, and an ACK
    // for its NEWLEADER and for each PROPOSE.
    private static final int UP_ROOM = 3 + MOST_ENTRIES;
    // At most one NEWEPOCH, one NEWLEADER, a PROPOSE for each entry, a COMMIT for each
    // entry and one COMMIT for the first ACK.
    private static final int DOWN_ROOM = 3 + 2 * MOST_ENTRIES;

    private static final int CREATE = 1;
    private static final int SET = 2;
    private static final int DELETE = 3;
    private static final int OPEN = 4;
    private static final int CLOSE = 5;

    private static final int DONE = 0;
    private static final int NOT_THERE = 1;
    private static final int THERE_ALREADY = 2;
    private static final int PARENT_OWNED = 3;
    private static final int HAS_CHILDREN = 4;
    private static final int OTHER_VERSION = 5;
    private static final int NOT_OPEN = 6;

    private static final int ANY_VERSION = -1;

    private final Server[] servers;

    public EpochTree() {
        servers = new Server[SERVERS];
        for (int i = 0; i < SERVERS; i++) {
            servers[i] = new Server(i);
        }
    }

    public boolean lead(int server) {
        if (!hasRole(server, IS_LOOKING)) {
            return false;
        }
        servers[server].role = IS_LEADING;
        servers[server].term.begin();
        return true;
    }

    public boolean follow(int server, int leader) {
        if (!hasRole(server, IS_LOOKING) || !leads(leader)) {
            return false;
        }
        Server follower = servers[server];
        follower.role = IS_FOLLOWING;
        follower.leader = leader;
        follower.link.up.send(JOIN, follower.promise);
        return true;
    }

    public boolean quit(int server) {
        if (!hasRole(server, IS_FOLLOWING) && !leads(server)) {
            return false;
        }
        stopTo(server, IS_LOOKING);
        return true;
    }

    public boolean crash(int server) {
        if (!isServer(server) || servers[server].role == IS_DOWN) {
            return false;
        }
        stopTo(server, IS_DOWN);
        servers[server].forgetApplied();
        return true;
    }

    public boolean restart(int server) {
        if (!hasRole(server, IS_DOWN)) {
            return false;
        }
        servers[server].role = IS_LOOKING;
        return true;
    }

    public int up(int server) {
        if (!hasRole(server, IS_FOLLOWING)) {
            return 0;
        }
        Server follower = servers[server];
        Server leader = servers[follower.leader];
        Row row = follower.link.up;
        if (row.count() == 0) {
            return 0;
        }
        int kind = row.firstKind();
        int value = row.firstValue();
        row.dropFirst();
        if (kind == JOIN) {
            readJoin(leader, follower, value);
        } else if (kind == ACCEPTED) {
            readAccepted(leader, follower, value != 0);
        } else {
            readAck(leader, follower, value);
        }
        return kind;
    }

    public int down(int server) {
        if (!hasRole(server, IS_FOLLOWING)) {
            return 0;
        }
        Server follower = servers[server];
        Row row = follower.link.down;
        if (row.count() == 0) {
            return 0;
        }
        int kind = row.firstKind();
        int value = row.firstValue();
        row.dropFirst();
        if (kind == NEWEPOCH) {
            readNewEpoch(server, value);
        } else if (kind == NEWLEADER) {
            readNewLeader(follower, value);
        } else if (kind == PROPOSE) {
            readProposal(follower, value);
        } else {
            follower.applyUpTo(value);
        }
        return kind;
    }

    public int submit(int server, int kind, int path, int a, int b) {
        if (!isServer(server) || !isChange(kind, path, b)) {
            return BAD;
        }
        Server leader = servers[server];
        if (leader.role != IS_ESTABLISHED) {
            return IDLE;
        }
        if (leader.list.isFull()) {
            return FULL;
        }
        makeEntry(leader, kind, path, a, b);
        return leader.list.size;
    }

    public int tick() {
        int made = 0;
        for (int i = 0; i < SERVERS; i++) {
            if (servers[i].role == IS_ESTABLISHED) {
                growAges(servers[i]);
                made += closeOldSessions(servers[i]);
            }
        }
        return made;
    }

    public boolean touch(int server, int session) {
        if (!hasRole(server, IS_ESTABLISHED) || !isSession(session)) {
            return false;
        }
        Server leader = servers[server];
        if (!leader.tree.isOpen(session)) {
            return false;
        }
        leader.term.ages[session] = 0;
        return true;
    }

    public int role(int server) {
        return isServer(server) ? servers[server].role : BAD;
    }

    public int promise(int server) {
        return isServer(server) ? servers[server].promise : BAD;
    }

    public int epoch(int server) {
        return isServer(server) ? servers[server].epoch : BAD;
    }

    public int length(int server) {
        return isServer(server) ? servers[server].list.size : BAD;
    }

    public int mark(int server, int k) {
        return isServer(server) ? servers[server].list.markAt(k) : 0;
    }

    public int applied(int server) {
        return isServer(server) ? servers[server].applied : BAD;
    }

    public int result(int server, int k) {
        if (!isServer(server) || k < 1 || k > servers[server].applied) {
            return BAD;
        }
        return servers[server].results[k - 1];
    }

    public int node(int server, int path, int which) {
        return isServer(server) ? servers[server].tree.look(path, which) : 0;
    }

    public int tree(int server) {
        return isServer(server) ? servers[server].tree.summary() : BAD;
    }

    public int waiting(int server, boolean up) {
        if (!hasRole(server, IS_FOLLOWING)) {
            return 0;
        }
        Link link = servers[server].link;
        return up ? link.up.count() : link.down.count();
    }

    private static boolean isServer(int server) {
        return server >= 0 && server < SERVERS;
    }

    private static boolean isSession(int session) {
        return session >= 1 && session <= LAST_SESSION;
    }

    private static boolean isNodePath(int path) {
        if (path < 1 || path > LAST_PATH) {
            return false;
        }
        for (int rest = path; rest > 0; rest /= 8) {
            if (rest % 8 == 0) {
                return false;
            }
        }
        return true;
    }

    private static boolean isChange(int kind, int path, int b) {
        switch (kind) {
            case CREATE:
                return isNodePath(path) && (b == 0 || isSession(b));
            case SET:
            case DELETE:
                return isNodePath(path) && b >= ANY_VERSION;
            case OPEN:
            case CLOSE:
                return isSession(b);
            default:
                return false;
        }
    }

    private boolean hasRole(int server, int role) {
        return isServer(server) && servers[server].role == role;
    }

    private boolean leads(int server) {
        return hasRole(server, IS_LEADING) || hasRole(server, IS_ESTABLISHED);
    }

    private static boolean isFollowerOf(Server follower, Server leader) {
        return follower.role == IS_FOLLOWING && follower.leader == leader.number;
    }

    private void stopTo(int server, int role) {
        Server stopping = servers[server];
        for (int i = 0; i < SERVERS; i++) {
            if (isFollowerOf(servers[i], stopping)) {
                servers[i].link.clear();
                servers[i].role = IS_LOOKING;
            }
        }
        stopping.link.clear();
        stopping.role = role;
    }

    private static void readJoin(Server leader, Server follower, int promise) {
        if (!leader.term.epochChosen) {
            leader.term.epochChosen = true;
            leader.promise = Math.max(promise, leader.promise) + 1;
        }
        // A leader's promise does not change after its choice, so it is the chosen epoch.
        follower.link.down.send(NEWEPOCH, leader.promise);
    }

    private void readAccepted(Server leader, Server follower, boolean fresh) {
        if (leader.term.listChosen) {
            sendNewLeader(leader, follower);
        } else if (fresh) {
            chooseList(leader, follower);
            sendNewLeader(leader, follower);
            sendNewLeaderToWaiting(leader);
        } else {
            follower.link.waitsForList = true;
        }
    }

    private static void chooseList(Server leader, Server follower) {
        boolean sameEpoch = follower.epoch == leader.epoch;
        boolean laterMark = follower.list.lastMark() > leader.list.lastMark();
        if (follower.epoch > leader.epoch || (sameEpoch && laterMark)) {
            leader.list.becomeFirst(follower.list, follower.list.size);
        }
        leader.epoch = leader.promise;
        leader.term.listChosen = true;
    }

    // The message holds the length alone: while the link lasts, the leader only appends to
    // its list, so the first entries are still those of the moment of sending.
    private static void sendNewLeader(Server leader, Server follower) {
        follower.link.tied = true;
        follower.link.waitsForList = false;
        follower.link.down.send(NEWLEADER, leader.list.size);
    }

    private void sendNewLeaderToWaiting(Server leader) {
        for (int i = 0; i < SERVERS; i++) {
            if (isFollowerOf(servers[i], leader) && servers[i].link.waitsForList) {
                sendNewLeader(leader, servers[i]);
            }
        }
    }

    private void readAck(Server leader, Server follower, int k) {
        if (leader.role == IS_LEADING) {
            leader.role = IS_ESTABLISHED;
            Arrays.fill(leader.term.ages, 0);
        }
        boolean first = !follower.link.acked;
        follower.link.acked = true;
        if (k > leader.applied) {
            leader.applyUpTo(k);
            sendOnTiedLinks(leader, COMMIT, k);
        } else if (first) {
            follower.link.down.send(COMMIT, leader.applied);
        }
    }

    private void sendOnTiedLinks(Server leader, int kind, int value) {
        for (int i = 0; i < SERVERS; i++) {
            if (isFollowerOf(servers[i], leader) && servers[i].link.tied) {
                servers[i].link.down.send(kind, value);
            }
        }
    }

    private void readNewEpoch(int server, int chosen) {
        Server follower = servers[server];
        if (chosen < follower.promise) {
            stopTo(server, IS_LOOKING);
            return;
        }
        boolean fresh = chosen > follower.promise;
        follower.promise = chosen;
        follower.link.up.send(ACCEPTED, fresh ? 1 : 0);
    }

    private void readNewLeader(Server follower, int size) {
        follower.epoch = follower.promise;
        follower.list.becomeFirst(servers[follower.leader].list, size);
        follower.link.up.send(ACK, size);
    }

    private void readProposal(Server follower, int k) {
        follower.list.appendFrom(servers[follower.leader].list, k);
        follower.link.up.send(ACK, follower.list.size);
    }

    private void makeEntry(Server leader, int kind, int path, int a, int b) {
        leader.term.made++;
        int mark = MARKS_PER_EPOCH * leader.epoch + leader.term.made;
        leader.list.append(mark, kind, path, a, b);
        // The place of the entry stands for it, as the length does in NEWLEADER.
        sendOnTiedLinks(leader, PROPOSE, leader.list.size);
    }

    private static void growAges(Server leader) {
        int[] ages = leader.term.ages;
        for (int session = 1; session <= LAST_SESSION; session++) {
            ages[session] = leader.tree.isOpen(session) ? Math.min(ages[session] + 1, OLD_AGE) : 0;
        }
    }

    private int closeOldSessions(Server leader) {
        int[] ages = leader.term.ages;
        int made = 0;
        for (int session = 1; session <= LAST_SESSION; session++) {
            if (ages[session] == OLD_AGE && !leader.list.isFull()) {
                makeEntry(leader, CLOSE, 0, 0, session);
                ages[session] = 0;
                made++;
            }
        }
        return made;
    }

    private static final class Server {
        private final int number;
        private int promise;
        private int epoch;
        private final EntryList list;
        private int role;
        private int leader;
        private int applied;
        private final int[] results;
        private final Tree tree;
        private final Link link;
        private final Term term;

        private Server(int number) {
            this.number = number;
            list = new EntryList();
            role = IS_LOOKING;
            results = new int[MOST_ENTRIES];
            tree = new Tree();
            link = new Link();
            term = new Term();
        }

        private void applyUpTo(int k) {
            int end = Math.min(k, list.size);
            for (int i = applied; i < end; i++) {
                results[i] = tree.change(list.kinds[i], list.paths[i], list.as[i], list.bs[i]);
                applied = i + 1;
            }
        }

        private void forgetApplied() {
            applied = 0;
            tree.clear();
        }
    }

    /** What a leader knows from the moment when it begins to lead. */
    private static final class Term {
        private boolean epochChosen;
        private boolean listChosen;
        private int made;
        private final int[] ages;

        private Term() {
            ages = new int[LAST_SESSION + 1];
        }

        private void begin() {
            epochChosen = false;
            listChosen = false;
            made = 0;
        }
    }

    /** The link of a follower with its leader; one that is cut is cleared, ready for the next one. */
    private static final class Link {
        private final Row up;
        private final Row down;
        private boolean tied;
        private boolean acked;
        private boolean waitsForList;

        private Link() {
            up = new Row(UP_ROOM);
            down = new Row(DOWN_ROOM);
        }

        private void clear() {
            up.clear();
            down.clear();
            tied = false;
            acked = false;
            waitsForList = false;
        }
    }

    /** Messages in the order of sending; its room is enough for all that one link ever carries. */
    private static final class Row {
        private final int[] kinds;
        private final int[] values;
        private int first;
        private int end;

        private Row(int room) {
            kinds = new int[room];
            values = new int[room];
        }

        private void clear() {
            first = 0;
            end = 0;
        }

        private int count() {
            return end - first;
        }

        private void send(int kind, int value) {
            if (end < kinds.length) {
                kinds[end] = kind;
                values[end] = value;
                end++;
            }
        }

        private int firstKind() {
            return first < end ? kinds[first] : 0;
        }

        private int firstValue() {
            return first < end ? values[first] : 0;
        }

        private void dropFirst() {
            if (first < end) {
                first++;
            }
        }
    }

    /** The list of entries of a server: one array for each part of an entry. */
    private static final class EntryList {
        private final int[] marks;
        private final int[] kinds;
        private final int[] paths;
        private final int[] as;
        private final int[] bs;
        private int size;

        private EntryList() {
            marks = new int[MOST_ENTRIES];
            kinds = new int[MOST_ENTRIES];
            paths = new int[MOST_ENTRIES];
            as = new int[MOST_ENTRIES];
            bs = new int[MOST_ENTRIES];
        }

        private boolean isFull() {
            return size >= MOST_ENTRIES;
        }

        private int markAt(int k) {
            return k >= 1 && k <= size ? marks[k - 1] : 0;
        }

        private int lastMark() {
            return markAt(size);
        }

        private void append(int mark, int kind, int path, int a, int b) {
            if (isFull()) {
                return;
            }
            marks[size] = mark;
            kinds[size] = kind;
            paths[size] = path;
            as[size] = a;
            bs[size] = b;
            size++;
        }

        private void appendFrom(EntryList other, int k) {
            if (k >= 1 && k <= other.size) {
                int i = k - 1;
                append(other.marks[i], other.kinds[i], other.paths[i], other.as[i], other.bs[i]);
            }
        }

        private void becomeFirst(EntryList other, int count) {
            size = 0;
            for (int k = 1; k <= count && k <= other.size; k++) {
                appendFrom(other, k);
            }
        }
    }

    /** A tree: its nodes in no order (24 entries make no more than 24), and its open sessions as bits. */
    private static final class Tree {
        private final int[] paths;
        private final int[] data;
        private final int[] versions;
        private final int[] owners;
        private int size;
        private int openBits;

        private Tree() {
            paths = new int[MOST_ENTRIES];
            data = new int[MOST_ENTRIES];
            versions = new int[MOST_ENTRIES];
            owners = new int[MOST_ENTRIES];
        }

        private void clear() {
            size = 0;
            openBits = 0;
        }

        private int summary() {
            return size + 64 * openBits;
        }

        private boolean isOpen(int session) {
            return isSession(session) && (openBits & (1 << session)) != 0;
        }

        private int look(int path, int which) {
            if (path == 0) {
                return lookAtRoot(which);
            }
            int at = find(path);
            if (at == NONE) {
                return 0;
            }
            switch (which) {
                case 0:
                    return 1;
                case 1:
                    return data[at];
                case 2:
                    return versions[at];
                case 3:
                    return countChildren(path);
                case 4:
                    return owners[at];
                default:
                    return 0;
            }
        }

        private int lookAtRoot(int which) {
            if (which == 0) {
                return 1;
            }
            return which == 3 ? countChildren(0) : 0;
        }

        private int find(int path) {
            for (int i = 0; i < size; i++) {
                if (paths[i] == path) {
                    return i;
                }
            }
            return NONE;
        }

        private int countChildren(int path) {
            int count = 0;
            for (int i = 0; i < size; i++) {
                if (paths[i] / 8 == path) {
                    count++;
                }
            }
            return count;
        }

        private int change(int kind, int path, int a, int b) {
            switch (kind) {
                case CREATE:
                    return create(path, a, b);
                case SET:
                    return set(path, a, b);
                case DELETE:
                    return delete(path, b);
                case OPEN:
                    return open(b);
                default:
                    return close(b);
            }
        }

        private int create(int path, int a, int owner) {
            if (owner != 0 && !isOpen(owner)) {
                return NOT_OPEN;
            }
            if (find(path) != NONE) {
                return THERE_ALREADY;
            }
            int parent = path / 8;
            int parentAt = find(parent);
            if (parent != 0 && parentAt == NONE) {
                return NOT_THERE;
            }
            if (parentAt != NONE && owners[parentAt] != 0) {
                return PARENT_OWNED;
            }
            add(path, a, owner);
            return DONE;
        }

        private void add(int path, int a, int owner) {
            if (size < MOST_ENTRIES) {
                paths[size] = path;
                data[size] = a;
                versions[size] = 0;
                owners[size] = owner;
                size++;
            }
        }

        private int set(int path, int a, int version) {
            int at = find(path);
            if (at == NONE) {
                return NOT_THERE;
            }
            if (version != ANY_VERSION && version != versions[at]) {
                return OTHER_VERSION;
            }
            data[at] = a;
            versions[at]++;
            return DONE;
        }

        private int delete(int path, int version) {
            int at = find(path);
            if (at == NONE) {
                return NOT_THERE;
            }
            if (version != ANY_VERSION && version != versions[at]) {
                return OTHER_VERSION;
            }
            if (countChildren(path) > 0) {
                return HAS_CHILDREN;
            }
            remove(at);
            return DONE;
        }

        private void remove(int at) {
            size--;
            paths[at] = paths[size];
            data[at] = data[size];
            versions[at] = versions[size];
            owners[at] = owners[size];
        }

        private int open(int session) {
            if (isOpen(session)) {
                return THERE_ALREADY;
            }
            openBits |= 1 << session;
            return DONE;
        }

        private int close(int session) {
            if (!isOpen(session)) {
                return NOT_OPEN;
            }
            // Backwards, as the last node takes the place of one that goes.
            for (int i = size - 1; i >= 0; i--) {
                if (owners[i] == session) {
                    remove(i);
                }
            }
            openBits &= ~(1 << session);
            return DONE;
        }
    }
}

/** Runs of calls that many tests begin with. */
final class Steps {
    /** Numbers that are no server: one too small, one too large, and the farthest ones. */
    static final int[] NO_SERVERS = {-1, 3, Integer.MIN_VALUE, Integer.MAX_VALUE};

    static final int DOWN = 0;
    static final int LOOKING = 1;
    static final int FOLLOWING = 2;
    static final int LEADING = 3;
    static final int ESTABLISHED = 4;

    private Steps() {
    }

    /** An object in which the leader is established with one follower, and no message waits. */
    static EpochTree established(int leader, int follower) {
        EpochTree x = new EpochTree();
        x.lead(leader);
        join(x, follower, leader);
        return x;
    }

    /** An object in which server 0 has this role; 1 leads if 0 follows, and follows if 0 is established. */
    static EpochTree inRole(int role) {
        EpochTree x = role == ESTABLISHED ? established(0, 1) : new EpochTree();
        if (role == DOWN) {
            x.crash(0);
        } else if (role == FOLLOWING) {
            x.lead(1);
            x.follow(0, 1);
        } else if (role == LEADING) {
            x.lead(0);
        }
        return x;
    }

    /** The leader leads and chooses this many epochs by a JOIN of the other one, which hears of none of them. */
    static void chooseEpochs(EpochTree x, int leader, int other, int epochs) {
        for (int i = 0; i < epochs; i++) {
            x.lead(leader);
            x.follow(other, leader);
            x.up(other);
            x.quit(leader);
        }
    }

    /** The follower begins to follow the leader, and all messages of its link are read. */
    static void join(EpochTree x, int follower, int leader) {
        x.follow(follower, leader);
        settle(x, follower);
    }

    /** JOIN, NEWEPOCH and ACCEPTED of a new link are read. */
    static void accept(EpochTree x, int follower, int leader) {
        x.follow(follower, leader);
        x.up(follower);
        x.down(follower);
        x.up(follower);
    }

    /** Reads the messages of one link until none waits. */
    static void settle(EpochTree x, int follower) {
        for (int i = 0; i < 200; i++) {
            if (x.down(follower) == 0 && x.up(follower) == 0) {
                return;
            }
        }
    }

    /** Makes an entry, has it applied by the leader and this follower, and answers its result at the follower. */
    static int resultOf(EpochTree x, int leader, int follower, int kind, int path, int a, int b) {
        int k = x.submit(leader, kind, path, a, b);
        settle(x, follower);
        return k < 0 ? 100 + k : x.result(follower, k);
    }

    /** The leader makes entries, which change nothing when applied, until its list has this many. */
    static void fillTo(EpochTree x, int leader, int length) {
        for (int i = x.length(leader); i < length; i++) {
            x.submit(leader, 2, 7, i, -1);
        }
    }
}

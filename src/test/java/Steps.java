/** Runs of calls that many tests begin with. */
final class Steps {
    private Steps() {
    }

    /** An object in which the leader is established with one follower, and no message waits. */
    static EpochTree established(int leader, int follower) {
        EpochTree x = new EpochTree();
        x.lead(leader);
        join(x, follower, leader);
        return x;
    }

    /** The follower begins to follow the leader, and all messages of its link are read. */
    static void join(EpochTree x, int follower, int leader) {
        x.follow(follower, leader);
        settle(x, follower);
    }

    /** Reads the messages of one link until none waits. */
    static void settle(EpochTree x, int follower) {
        for (int i = 0; i < 200; i++) {
            if (x.down(follower) == 0 && x.up(follower) == 0) {
                return;
            }
        }
    }

    /** Makes an entry, has it applied by the leader and this follower, and answers its result at the follower. */
    static int resultOf(EpochTree x, int leader, int follower, int kind, int path, int a, int b) {
        int k = x.submit(leader, kind, path, a, b);
        settle(x, follower);
        return k < 0 ? 100 + k : x.result(follower, k);
    }
}

/** Promises 18, 19 and 20: what the changes do, with their results, the nodes and the whole tree. */
public final class TreeTest {
    private static final Due DUE = new Due("TreeTest");

    private static EpochTree x;

    public static void main(String[] args) {
        root();
        create();
        createOrderOfResults();
        set();
        delete();
        deleteOrderOfResults();
        sessions();
        closeTakesNodes();
        nodesAreIndependent();
        children();
        noSuchNode();
        manyNodes();
        eachServerHasItsTree();
        DUE.end();
    }

    private static void fresh() {
        x = Steps.established(0, 1);
    }

    /** The result of a change, which must be the same at the leader. */
    private static int change(int kind, int path, int a, int b) {
        int result = Steps.resultOf(x, 0, 1, kind, path, a, b);
        DUE.is("the leader's result", x.result(0, x.length(0)), result);
        return result;
    }

    private static void nodeIs(int path, int data, int version, int children, int owner) {
        for (int s = 0; s < 2; s++) {
            DUE.is("there " + path, x.node(s, path, 0), 1);
            DUE.is("data " + path, x.node(s, path, 1), data);
            DUE.is("version " + path, x.node(s, path, 2), version);
            DUE.is("children " + path, x.node(s, path, 3), children);
            DUE.is("owner " + path, x.node(s, path, 4), owner);
        }
    }

    private static void noNode(int path) {
        for (int which = -1; which <= 5; which++) {
            DUE.is("no node " + path, x.node(0, path, which), 0);
            DUE.is("no node " + path, x.node(1, path, which), 0);
        }
    }

    private static void root() {
        fresh();
        nodeIs(0, 0, 0, 0, 0);
        change(1, 1, 5, 0);
        change(1, 7, 5, 0);
        nodeIs(0, 0, 0, 2, 0);
        DUE.is("the root is not counted", x.tree(0), 2);
        DUE.is("the root of one that looks", x.node(2, 0, 0), 1);
        x.crash(2);
        DUE.is("the root of one that is down", x.node(2, 0, 0), 1);
    }

    private static void create() {
        fresh();
        DUE.is("CREATE", change(1, 5, -7, 0), 0);
        nodeIs(5, -7, 0, 0, 0);
        DUE.is("CREATE of a child", change(1, 5 * 8 + 3, 8, 0), 0);
        nodeIs(5, -7, 0, 1, 0);
        DUE.is("CREATE of its child", change(1, (5 * 8 + 3) * 8 + 7, 9, 0), 0);
        nodeIs((5 * 8 + 3) * 8 + 7, 9, 0, 0, 0);
        DUE.is("there already", change(1, 5, 1, 0), 2);
        nodeIs(5, -7, 0, 1, 0);
        DUE.is("no parent", change(1, 4 * 8 + 1, 1, 0), 1);
        noNode(4 * 8 + 1);
        DUE.is("a grandparent is no parent", change(1, (5 * 8 + 2) * 8 + 1, 1, 0), 1);
        DUE.is("session not open", change(1, 6, 1, 2), 6);
        noNode(6);
        DUE.is("three nodes", x.tree(0), 3);
        change(4, 0, 0, 2);
        DUE.is("session open", change(1, 6, 1, 2), 0);
        nodeIs(6, 1, 0, 0, 2);
        DUE.is("parent with an owner", change(1, 6 * 8 + 1, 1, 0), 3);
        DUE.is("also for the owner itself", change(1, 6 * 8 + 1, 1, 2), 3);
        noNode(6 * 8 + 1);
        DUE.is("an owned child of a node without one", change(1, 5 * 8 + 1, 4, 2), 0);
        nodeIs(5 * 8 + 1, 4, 0, 0, 2);
    }

    private static void createOrderOfResults() {
        fresh();
        change(4, 0, 0, 1);
        change(1, 1, 0, 1);
        DUE.is("6 before 2", change(1, 1, 0, 3), 6);
        DUE.is("6 before 1", change(1, 2 * 8 + 1, 0, 3), 6);
        DUE.is("6 before 3", change(1, 1 * 8 + 1, 0, 3), 6);
        DUE.is("2 with an open session", change(1, 1, 0, 1), 2);
        DUE.is("1 with an open session", change(1, 2 * 8 + 1, 0, 1), 1);
        DUE.is("3 with an open session", change(1, 1 * 8 + 1, 0, 1), 3);
        DUE.is("1 below an owned node's missing child", change(1, (1 * 8 + 1) * 8 + 1, 0, 0), 1);
    }

    private static void set() {
        fresh();
        DUE.is("SET of no node", change(2, 3, 1, -1), 1);
        DUE.is("SET of no node with a version", change(2, 3, 1, 0), 1);
        change(1, 3, 10, 0);
        DUE.is("SET with version 0", change(2, 3, 11, 0), 0);
        nodeIs(3, 11, 1, 0, 0);
        DUE.is("SET with an old version", change(2, 3, 12, 0), 5);
        DUE.is("SET with a version to come", change(2, 3, 12, 2), 5);
        DUE.is("SET with the greatest version", change(2, 3, 12, Integer.MAX_VALUE), 5);
        nodeIs(3, 11, 1, 0, 0);
        DUE.is("SET with any version", change(2, 3, Integer.MAX_VALUE, -1), 0);
        nodeIs(3, Integer.MAX_VALUE, 2, 0, 0);
        DUE.is("SET with version 2", change(2, 3, 13, 2), 0);
        nodeIs(3, 13, 3, 0, 0);
        change(4, 0, 0, 4);
        change(1, 4, 1, 4);
        DUE.is("SET of an owned node", change(2, 4, 2, 0), 0);
        nodeIs(4, 2, 1, 0, 4);
    }

    private static void delete() {
        fresh();
        DUE.is("DELETE of no node", change(3, 2, 0, -1), 1);
        change(1, 2, 1, 0);
        change(1, 2 * 8 + 2, 2, 0);
        DUE.is("DELETE with children", change(3, 2, 0, 0), 4);
        DUE.is("DELETE with children, any version", change(3, 2, 0, -1), 4);
        nodeIs(2, 1, 0, 1, 0);
        DUE.is("DELETE with another version", change(3, 2 * 8 + 2, 0, 1), 5);
        DUE.is("DELETE with its version", change(3, 2 * 8 + 2, 0, 0), 0);
        noNode(2 * 8 + 2);
        nodeIs(2, 1, 0, 0, 0);
        change(2, 2, 5, -1);
        DUE.is("DELETE with the old version", change(3, 2, 0, 0), 5);
        DUE.is("DELETE with any version", change(3, 2, 0, -1), 0);
        noNode(2);
        DUE.is("DELETE again", change(3, 2, 0, -1), 1);
        DUE.is("an empty tree", x.tree(1), 0);
        DUE.is("CREATE again", change(1, 2, 6, 0), 0);
        nodeIs(2, 6, 0, 0, 0);
    }

    private static void deleteOrderOfResults() {
        fresh();
        change(1, 2, 1, 0);
        change(1, 2 * 8 + 2, 2, 0);
        DUE.is("5 before 4", change(3, 2, 0, 7), 5);
        DUE.is("1 before 5", change(3, 3, 0, 7), 1);
    }

    private static void sessions() {
        fresh();
        int open = 0;
        for (int s = 4; s >= 1; s--) {
            DUE.is("CLOSE when not open", change(5, 0, 0, s), 6);
            DUE.is("OPEN", change(4, 0, 0, s), 0);
            open += 1 << s;
            DUE.is("tree", x.tree(1), 64 * open);
            DUE.is("OPEN again", change(4, 0, 0, s), 2);
            DUE.is("tree at the leader", x.tree(0), 64 * open);
        }
        for (int s = 1; s <= 4; s++) {
            DUE.is("CLOSE", change(5, 0, 0, s), 0);
            open -= 1 << s;
            DUE.is("tree", x.tree(1), 64 * open);
        }
        DUE.is("CLOSE again", change(5, 0, 0, 4), 6);
        DUE.is("OPEN anew", change(4, 0, 0, 4), 0);
    }

    private static void closeTakesNodes() {
        fresh();
        change(4, 0, 0, 1);
        change(4, 0, 0, 2);
        change(1, 1, 1, 1);
        change(1, 2, 2, 2);
        change(1, 3, 3, 0);
        change(1, 3 * 8 + 1, 4, 1);
        change(1, 3 * 8 + 2, 5, 2);
        change(1, 3 * 8 + 3, 6, 0);
        change(1, 7, 7, 1);
        change(1, 6, 8, 1);
        DUE.is("eight nodes", x.tree(0), 8 + 64 * 6);
        DUE.is("CLOSE", change(5, 0, 0, 1), 0);
        DUE.is("four are gone", x.tree(1), 4 + 64 * 4);
        noNode(1);
        noNode(3 * 8 + 1);
        noNode(7);
        noNode(6);
        nodeIs(2, 2, 0, 0, 2);
        nodeIs(3, 3, 0, 2, 0);
        nodeIs(3 * 8 + 2, 5, 0, 0, 2);
        nodeIs(3 * 8 + 3, 6, 0, 0, 0);
        nodeIs(0, 0, 0, 2, 0);
        change(4, 0, 0, 1);
        noNode(1);
        DUE.is("its nodes do not come back", x.tree(1), 4 + 64 * 6);
    }

    private static void nodesAreIndependent() {
        fresh();
        change(1, 1, 10, 0);
        change(1, 2, 20, 0);
        change(1, 3, 30, 0);
        change(2, 2, 21, -1);
        change(2, 3, 31, -1);
        change(2, 3, 32, -1);
        change(3, 1, 0, -1);
        noNode(1);
        nodeIs(2, 21, 1, 0, 0);
        nodeIs(3, 32, 2, 0, 0);
        change(1, 1, 11, 0);
        nodeIs(1, 11, 0, 0, 0);
    }

    private static void children() {
        fresh();
        change(1, 1, 0, 0);
        change(1, 7, 0, 0);
        for (int digit = 1; digit <= 7; digit++) {
            change(1, 7 * 8 + digit, 0, 0);
            nodeIs(7, 0, 0, digit, 0);
        }
        change(1, 7 * 64 + 7 * 8 + 7, 0, 0);
        nodeIs(7, 0, 0, 7, 0);
        nodeIs(63, 0, 0, 1, 0);
        nodeIs(511, 0, 0, 0, 0);
        nodeIs(1, 0, 0, 0, 0);
        nodeIs(0, 0, 0, 2, 0);
    }

    private static void noSuchNode() {
        fresh();
        change(4, 0, 0, 1);
        change(1, 1, 5, 1);
        for (int which : new int[] {-1, 5, Integer.MIN_VALUE, Integer.MAX_VALUE}) {
            DUE.is("which " + which, x.node(0, 1, which), 0);
            DUE.is("which of the root " + which, x.node(0, 0, which), 0);
        }
        for (int path : new int[] {-1, -8, 2, 8, 9, 64, 511, 512, 513, Integer.MIN_VALUE, Integer.MAX_VALUE}) {
            noNode(path);
        }
        for (int server : new int[] {-1, 3, Integer.MIN_VALUE, Integer.MAX_VALUE}) {
            DUE.is("node of none", x.node(server, 1, 0), 0);
            DUE.is("root of none", x.node(server, 0, 0), 0);
            DUE.is("tree of none", x.tree(server), EpochTree.BAD);
        }
    }

    private static void manyNodes() {
        fresh();
        int made = 0;
        for (int digit = 1; digit <= 7; digit++) {
            made += change(1, digit, digit, 0) == 0 ? 1 : 0;
            made += change(1, digit * 9, digit, 0) == 0 ? 1 : 0;
            made += change(1, digit * 73, digit, 0) == 0 ? 1 : 0;
        }
        made += change(1, 1 * 8 + 2, 0, 0) == 0 ? 1 : 0;
        made += change(1, 1 * 8 + 3, 0, 0) == 0 ? 1 : 0;
        made += change(1, 1 * 8 + 4, 0, 0) == 0 ? 1 : 0;
        DUE.is("24 nodes", made, 24);
        DUE.is("tree", x.tree(1), 24);
        for (int digit = 1; digit <= 7; digit++) {
            nodeIs(digit * 73, digit, 0, 0, 0);
        }
    }

    private static void eachServerHasItsTree() {
        fresh();
        x.submit(0, 1, 1, 5, 0);
        x.down(1);
        x.up(1);
        DUE.is("the leader has the node", x.node(0, 1, 1), 5);
        DUE.is("the follower not yet", x.node(1, 1, 0), 0);
        DUE.is("nor in its count", x.tree(1), 0);
        x.down(1);
        DUE.is("now it has", x.node(1, 1, 1), 5);
        DUE.is("the third server has not", x.tree(2), 0);
        EpochTree other = new EpochTree();
        DUE.is("nor has another object", other.tree(0), 0);
    }
}

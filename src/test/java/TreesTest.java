import java.util.List;

/** Section 1 of the document, TREES: a test for each sentence that has a boundary in it. */
public final class TreesTest {
    private static final long KEY = 0x7766554433221100L;
    private static final int NONE = CoinTree.NONE;

    public static void main(String[] args) {
        theFirstAndTheLastLeaf();
        theStashIsBeforeTheRootAndTheRootBeforeTheLeaf();
        slotBySlot();
        aBlockOfTheStashKeepsItsPlace();
        aBlockOfTheWayKeepsItsPlace();
        aBlockNotThereIsBehindAllWithValueZero();
        itsLeafIsTheCoinNow();
        aFullNodeLeavesTheRestToTheNodeAbove();
        aFullWayLeavesTheRestToTheStash();
        slotsLeftAreEmpty();
        aNodeLeftEmptyIsCountedToo();
        stashOfTreeZeroUpToItsCapacity();
        stashOfTreeOneUpToItsCapacity();
        onlyTheEndOfAVisitIsMeasured();
        Check.end("TreesTest");
    }

    /** "Those of the last level L are 2 to the L LEAVES, numbered from 0, from the left." */
    private static void theFirstAndTheLastLeaf() {
        for (int levels = 1; levels <= 5; levels++) {
            CoinTree x = new CoinTree(levels, 1, 0, KEY);
            x.read(0, 0, 0);
            CoinTree y = new CoinTree(levels, 1, 0, KEY);
            y.read(63, y.count(0) - 1, y.count(1) - 1);
            for (int tree = 0; tree <= 1; tree++) {
                for (int node = 1; node < 2 * x.count(tree); node++) {
                    boolean leftmost = Integer.bitCount(node) == 1;
                    boolean rightmost = Integer.bitCount(node + 1) == 1;
                    Check.same("the way of the first leaf, node " + node, x.written(tree, node), leftmost ? 1 : 0);
                    Check.same("the way of the last leaf, node " + node, y.written(tree, node), rightmost ? 1 : 0);
                }
            }
        }
    }

    /** Blocks 0, 2, 4, 6 at leaf 0: nodes 2 and 1 have 4 and 0, the stash has 2 and 6. */
    private static CoinTree withStash() {
        CoinTree x = new CoinTree(1, 1, 10, KEY);
        for (int b = 0; b <= 6; b += 2) {
            x.read(b, 0, 0);
        }
        return x;
    }

    /** "All blocks of the way of x, from the root on, .. come behind those in the stash." */
    private static void theStashIsBeforeTheRootAndTheRootBeforeTheLeaf() {
        CoinTree x = withStash();
        Seen.slot(x, KEY, Seen.at(0, 2, 0), 4, 0, 0L);
        Seen.slot(x, KEY, Seen.at(0, 1, 0), 0, 0, 0L);
        Seen.stash(x, 0, 2, 6);
    }

    /** ".. slot by slot": the row is 8 of the stash, 4 and 0 of the root, 2 and 6 of the leaf, then 10. */
    private static void slotBySlot() {
        CoinTree x = new CoinTree(1, 2, 10, KEY);
        for (int b = 0; b <= 10; b += 2) {
            x.read(b, 0, 0);
        }
        Seen.slot(x, KEY, Seen.at(0, 2, 0), 8, 0, 0L);
        Seen.slot(x, KEY, Seen.at(0, 2, 1), 4, 0, 0L);
        Seen.slot(x, KEY, Seen.at(0, 1, 0), 0, 0, 0L);
        Seen.slot(x, KEY, Seen.at(0, 1, 1), 2, 0, 0L);
        Seen.stash(x, 0, 6, 10);
    }

    /** "If b is not in the stash then, it comes behind all": one that is there does not. */
    private static void aBlockOfTheStashKeepsItsPlace() {
        CoinTree x = withStash();
        x.read(6, 0, 0);
        Seen.slot(x, KEY, Seen.at(0, 2, 0), 2, 0, 0L);
        Seen.slot(x, KEY, Seen.at(0, 1, 0), 6, 0, 0L);
        Seen.stash(x, 0, 0, 4);
    }

    /** The same for one that has come from the way: the row is 2, 6, 0, 4. */
    private static void aBlockOfTheWayKeepsItsPlace() {
        CoinTree x = withStash();
        x.read(0, 0, 0);
        Seen.slot(x, KEY, Seen.at(0, 2, 0), 2, 0, 0L);
        Seen.slot(x, KEY, Seen.at(0, 1, 0), 6, 0, 0L);
        Seen.stash(x, 0, 0, 4);
    }

    /** "If b is not in the stash then, it comes behind all, with value 0." */
    private static void aBlockNotThereIsBehindAllWithValueZero() {
        CoinTree empty = new CoinTree(1, 1, 0, KEY);
        Check.same("a block of an empty tree", empty.read(63, 1, 1), 0L);
        Seen.slot(empty, KEY, Seen.at(0, 3, 0), 63, 1, 0L);
        CoinTree x = new CoinTree(1, 1, 10, KEY);
        for (int b = 0; b <= 6; b += 2) {
            x.write(b, -1L, 0, 0);
        }
        Check.same("a block that is not there", x.read(8, 0, 0), 0L);
        Check.same("the block behind all", x.stash(0, x.count(4) - 1), 8);
    }

    /** "Its leaf is the coin now": the first, the last and the same leaf as before. */
    private static void itsLeafIsTheCoinNow() {
        CoinTree x = new CoinTree(5, 1, 0, KEY);
        int[] coins = {31, 0, 0, 31, 31, 16, 15};
        int before = 5;
        for (int coin : coins) {
            x.read(5, coin, 0);
            Check.same("the way that was read", x.trace(0, x.count(8) - 1), before);
            int node = lowestOnBoth(32 + before, 32 + coin);
            Seen.slot(x, KEY, Seen.at(0, node, 0), 5, coin, 0L);
            before = coin;
        }
    }

    private static int lowestOnBoth(int leafNode, int other) {
        int a = leafNode;
        int b = other;
        while (a != b) {
            a /= 2;
            b /= 2;
        }
        return a;
    }

    /** "Its slots are filled, from the first one on", and the block too many goes to the node above. */
    private static void aFullNodeLeavesTheRestToTheNodeAbove() {
        for (int slots = 1; slots <= 4; slots++) {
            CoinTree x = new CoinTree(1, slots, 0, KEY);
            for (int i = 0; i < slots; i++) {
                x.read(32 * (i % 2) + 2 * (i / 2), 0, 0);
                Check.isTrue("slot " + i + " is filled", Seen.open(x, KEY, 0, 2, i, 0) != 0);
                Check.same("the root has none yet", Seen.open(x, KEY, 0, 1, 0, 0), 0L);
            }
            x.read(62, 0, 1);
            Seen.slot(x, KEY, Seen.at(0, 1, 0), 62, 0, 0L);
            Seen.stash(x, 0);
        }
    }

    /** The last slot of a way, and the first block that finds none. */
    private static void aFullWayLeavesTheRestToTheStash() {
        for (int slots = 1; slots <= 4; slots++) {
            CoinTree x = new CoinTree(1, slots, 20, KEY);
            for (int i = 0; i < 2 * slots; i++) {
                x.read(2 * i, 0, 0);
                Seen.stash(x, 0);
            }
            x.read(62, 0, 0);
            Seen.stash(x, 0, 62);
        }
    }

    /** "Slots left are empty": one, two, three, all of a node. */
    private static void slotsLeftAreEmpty() {
        CoinTree x = new CoinTree(1, 4, 0, KEY);
        for (int b = 0; b <= 6; b += 2) {
            x.write(b, -1L, 0, 0);
        }
        int[][] leafNode = {{2, 4, 6, NONE}, {4, 6, NONE, NONE}, {6, NONE, NONE, NONE}, {NONE, NONE, NONE, NONE}};
        int[][] root = {{0, NONE, NONE, NONE}, {0, 2, NONE, NONE}, {0, 2, 4, NONE}, {0, 2, 4, 6}};
        for (int i = 0; i < 4; i++) {
            x.read(2 * i, 1, 0);
            for (int slot = 0; slot < 4; slot++) {
                Seen.slot(x, KEY, Seen.at(0, 2, slot), leafNode[i][slot], 0, leafNode[i][slot] == NONE ? 0L : -1L);
                boolean none = root[i][slot] == NONE;
                Seen.slot(x, KEY, Seen.at(0, 1, slot), root[i][slot], none ? 0 : 1, none ? 0L : -1L);
            }
        }
    }

    /** "The node's COUNT is one more": of each node of the way, with blocks or without. */
    private static void aNodeLeftEmptyIsCountedToo() {
        CoinTree x = new CoinTree(5, 1, 0, KEY);
        x.read(0, 31, 15);
        for (int node = 2; node <= 32; node *= 2) {
            Check.same("written(0, " + node + ")", x.written(0, node), 1);
            Seen.slot(x, KEY, Seen.at(0, node, 0), NONE, 0, 0L);
        }
        for (int node = 2; node <= 16; node *= 2) {
            Check.same("written(1, " + node + ")", x.written(1, node), 1);
            Seen.slot(x, KEY, Seen.at(1, node, 0), NONE, 0, 0L);
        }
    }

    /**
     * "FULL: the stash would have more blocks than its CAPACITY in the end." The first 32 blocks
     * share only the root with the way of leaf 31, the others one node more.
     */
    private static void stashOfTreeZeroUpToItsCapacity() {
        for (int slots = 1; slots <= 4; slots++) {
            for (int capacity = 0; capacity <= 40; capacity++) {
                CoinTree x = new CoinTree(5, slots, capacity, KEY);
                boolean refused = false;
                for (int i = 0; i < 48 && !refused; i++) {
                    int block = i < 32 ? i % 16 + 32 * (i / 16) : 16 + i % 8 + 32 * (i / 40);
                    int left = Math.max(0, i + 1 - slots * (i < 32 ? 1 : 2));
                    refused = askedUpTo(x, block, new int[] {31, block / 4}, left, 0);
                }
                Check.isTrue("slots " + slots + ": a stash goes up to " + capacity + " and no further",
                        refused == (capacity < 48 - 2 * slots));
            }
        }
    }

    /** The same for tree 1: the map blocks 0 to 7 share only the root with the way of leaf 15. */
    private static void stashOfTreeOneUpToItsCapacity() {
        for (int slots = 1; slots <= 4; slots++) {
            for (int capacity = 0; capacity <= 8; capacity++) {
                CoinTree x = new CoinTree(5, slots, capacity, KEY);
                boolean refused = false;
                for (int i = 0; i < 8 && !refused; i++) {
                    refused = askedUpTo(x, 4 * i, new int[] {4 * i, 15}, Math.max(0, i + 1 - slots), 1);
                }
                Check.isTrue("slots " + slots + ": stash 1 goes up to " + capacity + " and no further",
                        refused == (capacity < 8 - slots));
            }
        }
    }

    /** Asks for the block, that would leave so many in a tree's stash, and tells if it was refused. */
    private static boolean askedUpTo(CoinTree x, int block, int[] coins, int left, int tree) {
        if (left <= x.count(3)) {
            x.read(block, coins[0], coins[1]);
            Check.same("blocks in stash " + tree, x.count(4 + tree), left);
            return false;
        }
        List<Long> before = Seen.all(x);
        Check.full("one beyond capacity " + x.count(3), () -> x.read(block, coins[0], coins[1]));
        Check.same("all behind one beyond", Seen.all(x), before);
        return true;
    }

    /** ".. in the end": in the midst of a visit all 24 blocks of a way may stand in a stash for none. */
    private static void onlyTheEndOfAVisitIsMeasured() {
        CoinTree x = new CoinTree(5, 4, 0, KEY);
        x.read(31, 31, 7);
        for (int i = 0; i < 23; i++) {
            int block = i % 16 + 32 * (i / 16);
            x.write(block, block, 31, block / 4);
            if (i % 4 == 3) {
                x.read(31, 31, 7);
            }
        }
        Check.same("a block of a full way", x.write(31, 9L, 31, 7), 0L);
        Check.same("a block of a full way, again", x.read(31, 31, 7), 9L);
        Check.full("a block that finds no slot", () -> x.read(47, 31, 11));
        Check.same("blocks in the stash", x.count(4), 0);
    }
}

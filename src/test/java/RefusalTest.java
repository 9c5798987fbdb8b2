import java.util.List;

/** The document's last words before the promises: which exception, when several would do, and no change. */
public final class RefusalTest {
    private static final int LEAST = Integer.MIN_VALUE;
    private static final int MOST = Integer.MAX_VALUE;
    private static final int[] BLOCKS = {4, 63, 64, -1, LEAST, MOST};
    private static final int[] COINS = {31, 32, -1, LEAST, MOST};
    private static final int[] MAP_COINS = {15, 16, 31, -1, LEAST, MOST};
    private static final int[] NO_TREES = {2, -1, LEAST, MOST};

    public static void main(String[] args) {
        theOneNamedFirst();
        aRefusedAskChangesNothing();
        aRefusedAskLeavesNothingForTheNext();
        aRefusedLookChangesNothing();
        noSuchBlock();
        noSuchTree();
        noSuchNode();
        noSuchSlot();
        noSuchWord();
        noSuchTrace();
        noSuchWhat();
        aPlaceBelowZero();
        aPlaceFarBehindIsNoRefusal();
        coinsOfEachSize();
        Check.end("RefusalTest");
    }

    /** Both roots are taken, and no stash has room: leaf 31 and map leaf 15 are full for most blocks. */
    private static CoinTree withFullRoots() {
        CoinTree x = new CoinTree(5, 1, 0, 1L);
        x.write(0, 7L, 31, 15);
        return x;
    }

    /** "Methods throw what their comments name, the one named first when several would do." */
    private static void theOneNamedFirst() {
        for (int block : BLOCKS) {
            for (int coin : COINS) {
                for (int mapCoin : MAP_COINS) {
                    CoinTree x = withFullRoots();
                    String args = "(" + block + ", " + coin + ", " + mapCoin + ")";
                    if (block < 0 || block > 63) {
                        Check.noSuch("read" + args, () -> x.read(block, coin, mapCoin));
                        Check.noSuch("write" + args, () -> x.write(block, 1L, coin, mapCoin));
                    } else if (coin != 31 || mapCoin != 15) {
                        Check.noLeaf("read" + args, () -> x.read(block, coin, mapCoin));
                        Check.noLeaf("write" + args, () -> x.write(block, 1L, coin, mapCoin));
                    } else if (block == 4) {
                        Check.full("read" + args, () -> x.read(block, coin, mapCoin));
                        Check.full("write" + args, () -> x.write(block, 1L, coin, mapCoin));
                    } else {
                        Check.same("read" + args, x.read(block, coin, mapCoin), 0L);
                    }
                }
            }
        }
    }

    /** "A call that throws changes nothing": asks, on an object with blocks in nodes and stashes. */
    private static void aRefusedAskChangesNothing() {
        CoinTree x = withStashes();
        List<Long> before = Seen.all(x);
        Check.isTrue("both stashes are at their capacity", x.count(4) == 2 && x.count(5) == 2);
        Check.full("tree 0 full", () -> x.write(12, 5L, 31, 3));
        Check.full("tree 1 full", () -> x.write(12, 5L, 12, 15));
        Check.full("both full", () -> x.read(12, 31, 15));
        Check.noLeaf("a coin too large", () -> x.write(12, 5L, 32, 3));
        Check.noLeaf("a coin too small", () -> x.write(12, 5L, -1, 3));
        Check.noLeaf("a map coin too large", () -> x.read(12, 12, 16));
        Check.noLeaf("a map coin too small", () -> x.read(12, 12, -1));
        Check.noSuch("a block too large", () -> x.write(64, 5L, 12, 3));
        Check.noSuch("a block too small", () -> x.write(-1, 5L, 12, 3));
        Check.same("all behind refused asks", Seen.all(x), before);
        for (int b = 0; b <= 8; b += 4) {
            Check.same("the value of block " + b, x.read(b, b, b / 4), b + 1L);
        }
        Check.same("the value of block 12", x.read(12, 12, 3), 0L);
    }

    /** A longer row of blocks, refused, must not count as room for the shorter row of the next ask. */
    private static void aRefusedAskLeavesNothingForTheNext() {
        CoinTree x = new CoinTree(1, 1, 0, 1L);
        x.write(1, 10L, 1, 1);
        x.write(2, 20L, 1, 1);
        List<Long> before = Seen.all(x);
        Check.full("blocks 2, 1 and 3 for two slots", () -> x.read(3, 0, 1));
        Check.full("blocks 2 and 0 for the root", () -> x.read(0, 1, 0));
        Check.same("all behind both", Seen.all(x), before);
        Check.same("block 1", x.read(1, 1, 1), 10L);
        Check.same("block 2", x.read(2, 1, 1), 20L);
    }

    private static CoinTree withStashes() {
        CoinTree x = new CoinTree(5, 1, 2, 1L);
        for (int b = 0; b <= 8; b += 4) {
            x.write(b, b + 1L, 31, 15);
        }
        return x;
    }

    /** The same for the calls that only look. */
    private static void aRefusedLookChangesNothing() {
        CoinTree x = withStashes();
        List<Long> before = Seen.all(x);
        Check.noSuch("trace(0, 3)", () -> x.trace(0, 3));
        Check.noSuch("trace(2, 0)", () -> x.trace(2, 0));
        Check.noSuch("stored(0, 64, 0, 0)", () -> x.stored(0, 64, 0, 0));
        Check.noSuch("stored(1, 1, 0, 3)", () -> x.stored(1, 1, 0, 3));
        Check.noSuch("written(0, 0)", () -> x.written(0, 0));
        Check.noSuch("written(1, 32)", () -> x.written(1, 32));
        Check.noSuch("stash(0, -1)", () -> x.stash(0, -1));
        Check.noSuch("stash(-1, 0)", () -> x.stash(-1, 0));
        Check.noSuch("count(9)", () -> x.count(9));
        Check.same("all behind refused looks", Seen.all(x), before);
    }

    /** "IndexOutOfBoundsException: there is no such block, ..": next to the least and the last one. */
    private static void noSuchBlock() {
        for (int levels = 1; levels <= 5; levels++) {
            CoinTree x = new CoinTree(levels, 4, 40, 1L);
            Check.same("the first block", x.read(0, 0, 0), 0L);
            Check.same("the last block", x.read(63, 0, 0), 0L);
            for (int block : new int[] {-1, 64, LEAST, MOST}) {
                Check.noSuch("read(" + block + ", 0, 0)", () -> x.read(block, 0, 0));
                Check.noSuch("write(" + block + ", 1, 0, 0)", () -> x.write(block, 1L, 0, 0));
            }
        }
    }

    private static void noSuchTree() {
        CoinTree x = withStashes();
        for (int tree : NO_TREES) {
            Check.noSuch("trace(" + tree + ", 0)", () -> x.trace(tree, 0));
            Check.noSuch("stored(" + tree + ", 1, 0, 0)", () -> x.stored(tree, 1, 0, 0));
            Check.noSuch("written(" + tree + ", 1)", () -> x.written(tree, 1));
            Check.noSuch("stash(" + tree + ", 0)", () -> x.stash(tree, 0));
            Check.noSuch("stash(" + tree + ", 100)", () -> x.stash(tree, 100));
        }
    }

    private static void noSuchNode() {
        for (int levels = 1; levels <= 5; levels++) {
            CoinTree x = new CoinTree(levels, 4, 40, 1L);
            for (int tree = 0; tree <= 1; tree++) {
                int t = tree;
                int end = 2 * x.count(tree);
                Check.same("the root", x.written(t, 1), 0);
                Check.same("the last leaf", x.written(t, end - 1), 0);
                Seen.slot(x, 1L, Seen.at(t, 1, 0), CoinTree.NONE, 0, 0L);
                Seen.slot(x, 1L, Seen.at(t, end - 1, 3), CoinTree.NONE, 0, 0L);
                for (int node : new int[] {0, -1, end, end + 1, 64, LEAST, MOST}) {
                    Check.noSuch("written(" + t + ", " + node + ")", () -> x.written(t, node));
                    Check.noSuch("stored(" + t + ", " + node + ", 0, 0)", () -> x.stored(t, node, 0, 0));
                }
            }
        }
    }

    private static void noSuchSlot() {
        for (int slots = 1; slots <= 4; slots++) {
            CoinTree x = new CoinTree(5, slots, 40, 1L);
            for (int tree = 0; tree <= 1; tree++) {
                int t = tree;
                int lastNode = 2 * x.count(tree) - 1;
                Seen.slot(x, 1L, Seen.at(t, 1, slots - 1), CoinTree.NONE, 0, 0L);
                for (int slot : new int[] {-1, slots, 4, 5, LEAST, MOST}) {
                    Check.noSuch("stored(" + t + ", 1, " + slot + ", 0)", () -> x.stored(t, 1, slot, 0));
                    Check.noSuch("stored(" + t + ", last, " + slot + ", 0)", () -> x.stored(t, lastNode, slot, 0));
                }
            }
        }
    }

    private static void noSuchWord() {
        CoinTree x = withStashes();
        for (int word : new int[] {-1, 3, 4, LEAST, MOST}) {
            Check.noSuch("stored(0, 1, 0, " + word + ")", () -> x.stored(0, 1, 0, word));
            Check.noSuch("stored(1, 1, 0, " + word + ")", () -> x.stored(1, 1, 0, word));
        }
    }

    private static void noSuchTrace() {
        CoinTree x = new CoinTree(5, 4, 40, 1L);
        for (int asked = 0; asked < 4; asked++) {
            int kept = asked;
            for (int tree = 0; tree <= 1; tree++) {
                int t = tree;
                for (int k : new int[] {-1, kept, kept + 1, 599, 600, LEAST, MOST}) {
                    Check.noSuch("trace(" + t + ", " + k + ") of " + kept, () -> x.trace(t, k));
                }
            }
            x.read(asked, asked, 0);
            Check.same("the latest trace", x.trace(0, kept), kept);
        }
    }

    private static void noSuchWhat() {
        CoinTree x = withStashes();
        int[] due = {32, 16, 1, 2, 2, 2, 2, 3, 3};
        for (int what = 0; what <= 8; what++) {
            Check.same("count(" + what + ")", x.count(what), due[what]);
        }
        for (int what : new int[] {-1, 9, 10, LEAST, MOST}) {
            Check.noSuch("count(" + what + ")", () -> x.count(what));
        }
    }

    /** Promise 7: "no such tree, or k is below 0". */
    private static void aPlaceBelowZero() {
        for (CoinTree x : new CoinTree[] {new CoinTree(1, 1, 0, 1L), withStashes()}) {
            for (int k : new int[] {-1, -2, LEAST}) {
                Check.noSuch("stash(0, " + k + ")", () -> x.stash(0, k));
                Check.noSuch("stash(1, " + k + ")", () -> x.stash(1, k));
            }
        }
    }

    /** Promise 7: "NONE behind its last one", of an empty stash, a full one, and one of no capacity. */
    private static void aPlaceFarBehindIsNoRefusal() {
        CoinTree[] objects = {new CoinTree(1, 1, 0, 1L), new CoinTree(5, 4, 40, 1L), withStashes()};
        for (CoinTree x : objects) {
            for (int tree = 0; tree <= 1; tree++) {
                for (int k : new int[] {x.count(4 + tree), x.count(3) + 1, 40, 41, 64, MOST}) {
                    Check.same("stash(" + tree + ", " + k + ")", x.stash(tree, k), CoinTree.NONE);
                }
            }
        }
        CoinTree full = withStashes();
        Check.isTrue("the last place of a full stash 0", full.stash(0, 1) != CoinTree.NONE);
        Check.isTrue("the last place of a full stash 1", full.stash(1, 1) != CoinTree.NONE);
    }

    /** "IllegalArgumentException: a coin is no leaf of its tree": each coin goes by its own tree. */
    private static void coinsOfEachSize() {
        for (int levels = 1; levels <= 5; levels++) {
            CoinTree x = new CoinTree(levels, 4, 40, 1L);
            int last = x.count(0) - 1;
            int mapLast = x.count(1) - 1;
            Check.same("both coins 0", x.write(5, 1L, 0, 0), 0L);
            Check.same("both coins the last", x.write(5, 2L, last, mapLast), 1L);
            for (int coin : new int[] {-1, last + 1, last + 2, LEAST, MOST}) {
                Check.noLeaf("read(5, " + coin + ", 0)", () -> x.read(5, coin, 0));
                Check.noLeaf("write(5, 3, " + coin + ", 0)", () -> x.write(5, 3L, coin, 0));
            }
            for (int coin : new int[] {-1, mapLast + 1, mapLast + 2, LEAST, MOST}) {
                Check.noLeaf("read(5, 0, " + coin + ")", () -> x.read(5, 0, coin));
                Check.noLeaf("write(5, 3, 0, " + coin + ")", () -> x.write(5, 3L, 0, coin));
            }
            Check.same("the value behind them", x.read(5, 0, 0), 2L);
        }
    }
}

import java.util.List;

/** Section 2 of the document, TWO TREES: a test for each sentence that has a boundary in it. */
public final class TwoTreesTest {
    private static final long KEY = -5L;

    public static void main(String[] args) {
        theFirstAndTheLastBlock();
        oneLevelLessButOneAtLeast();
        asManySlotsAndTheSameCapacity();
        theFourNumbersFromTheLowestOn();
        numberZeroIsTheBlockModuloTheLeaves();
        coinZeroIsNotNumberZero();
        theLastCoinIsTold();
        mapLeafAtFirst();
        mapCoinZeroIsKeptAsItIs();
        theLastMapCoinIsKeptAsItIs();
        aNewValueOnlyIfToldSo();
        treeOneFullChangesNothing();
        treeZeroFullChangesNothing();
        bothFullChangesNothing();
        otherCoinsBehindARefusedCall();
        tracesOfTimesThatChangedSomething();
        Check.end("TwoTreesTest");
    }

    /** "Tree 0 has the blocks 0 .. 63", "Tree 1 has the blocks 0 .. 15". */
    private static void theFirstAndTheLastBlock() {
        CoinTree x = new CoinTree(5, 1, 0, KEY);
        x.write(0, 1L, 0, 0);
        x.write(63, 2L, 31, 15);
        Seen.slot(x, KEY, Seen.at(0, 32, 0), 0, 0, 1L);
        Seen.slot(x, KEY, Seen.at(0, 63, 0), 63, 31, 2L);
        Seen.slot(x, KEY, Seen.at(1, 16, 0), 0, 0, 1L);
        Seen.slot(x, KEY, Seen.at(1, 31, 0), 15, 15, 32L << 48);
        Check.noSuch("read(-1, 0, 0)", () -> x.read(-1, 0, 0));
        Check.noSuch("read(64, 0, 0)", () -> x.read(64, 0, 0));
    }

    /** "And one level less (but 1 at least)." */
    private static void oneLevelLessButOneAtLeast() {
        int[] mapLeaves = {2, 2, 4, 8, 16};
        for (int levels = 1; levels <= 5; levels++) {
            CoinTree x = new CoinTree(levels, 1, 0, KEY);
            int leaves = mapLeaves[levels - 1];
            Check.same("leaves of tree 1", x.count(1), leaves);
            Check.same("its last node", x.written(1, 2 * leaves - 1), 0);
            Check.noSuch("a node behind it", () -> x.written(1, 2 * leaves));
            Check.same("its last leaf as a coin", x.read(0, 0, leaves - 1), 0L);
            Check.noLeaf("a leaf behind it as a coin", () -> x.read(0, 0, leaves));
        }
    }

    /** "Both have as many slots (1 .. 4) and the same capacity (0 .. 40)." */
    private static void asManySlotsAndTheSameCapacity() {
        for (int slots = 1; slots <= 4; slots++) {
            CoinTree x = new CoinTree(3, slots, 0, KEY);
            for (int tree = 0; tree <= 1; tree++) {
                int t = tree;
                int behind = slots;
                Seen.slot(x, KEY, Seen.at(t, 1, slots - 1), CoinTree.NONE, 0, 0L);
                Check.noSuch("a slot behind the last one", () -> x.stored(t, 1, behind, 0));
            }
        }
    }

    /** "The k-th, from the lowest on, is for block 4 m + k": in the first and the last map block. */
    private static void theFourNumbersFromTheLowestOn() {
        for (int m : new int[] {0, 15}) {
            CoinTree x = new CoinTree(5, 4, 40, KEY);
            long numbers = 0;
            for (int k = 3; k >= 0; k--) {
                x.read(4 * m + k, 28 + k, m);
                numbers += (29L + k) << (16 * k);
                Seen.slot(x, KEY, Seen.at(1, 16 + m, 0), m, m, numbers);
            }
            for (int k = 0; k < 4; k++) {
                x.read(4 * m + k, 0, m);
                Check.same("the leaf of block " + (4 * m + k), x.trace(0, 4 + k), 28 + k);
            }
            Seen.slot(x, KEY, Seen.at(1, 16 + m, 0), m, m, 0x0001000100010001L);
        }
    }

    /** "0, its leaf is its number modulo how many leaves there are." */
    private static void numberZeroIsTheBlockModuloTheLeaves() {
        for (int levels = 1; levels <= 5; levels++) {
            for (int block = 0; block < 64; block++) {
                CoinTree x = new CoinTree(levels, 1, 1, KEY);
                x.read(block, 0, 0);
                Check.same("the first leaf of block " + block, x.trace(0, 0), block % x.count(0));
            }
        }
    }

    /** "Else one more than its leaf": leaf 0 is told as 1, so that it is not taken for none. */
    private static void coinZeroIsNotNumberZero() {
        for (int block : new int[] {1, 31, 33, 63}) {
            CoinTree x = new CoinTree(5, 1, 1, KEY);
            x.read(block, 0, block / 4);
            x.read(block, 0, block / 4);
            Check.same("the leaf behind coin 0", x.trace(0, 1), 0);
            Seen.slot(x, KEY, Seen.at(1, 16 + block / 4, 0), block / 4, block / 4, 1L << (16 * (block % 4)));
        }
    }

    private static void theLastCoinIsTold() {
        for (int levels = 1; levels <= 5; levels++) {
            CoinTree x = new CoinTree(levels, 1, 1, KEY);
            int last = x.count(0) - 1;
            x.read(0, last, 0);
            x.read(0, last, 0);
            Check.same("the leaf behind the last coin", x.trace(0, 1), last);
            Seen.slot(x, KEY, Seen.at(1, x.count(1), 0), 0, 0, last + 1L);
        }
    }

    /** "The leaf of a block m of tree 1 is m modulo how many leaves there are, at first." */
    private static void mapLeafAtFirst() {
        for (int levels = 1; levels <= 5; levels++) {
            for (int m = 0; m < 16; m++) {
                CoinTree x = new CoinTree(levels, 1, 1, KEY);
                x.read(4 * m + 3, 0, 0);
                Check.same("the first leaf of map block " + m, x.trace(1, 0), m % x.count(1));
            }
        }
    }

    /** "Then the coin of its latest visit, kept as it is": no 0 stands for none there. */
    private static void mapCoinZeroIsKeptAsItIs() {
        CoinTree x = new CoinTree(5, 1, 1, KEY);
        x.read(60, 28, 0);
        x.read(63, 31, 0);
        Check.same("the map leaf behind map coin 0", x.trace(1, 1), 0);
    }

    private static void theLastMapCoinIsKeptAsItIs() {
        for (int levels = 1; levels <= 5; levels++) {
            CoinTree x = new CoinTree(levels, 1, 1, KEY);
            int last = x.count(1) - 1;
            x.read(0, 0, last);
            x.read(0, 0, 0);
            x.read(0, 0, 0);
            Check.same("the map leaf behind the last map coin", x.trace(1, 1), last);
            Check.same("the map leaf behind map coin 0", x.trace(1, 2), 0);
        }
    }

    /** "Its value is the answer; a new one is put in its place if told so": the least, the greatest, 0. */
    private static void aNewValueOnlyIfToldSo() {
        CoinTree x = new CoinTree(1, 1, 0, KEY);
        long before = 0L;
        for (long value : new long[] {Long.MIN_VALUE, Long.MAX_VALUE, 0L, -1L, 1L, 0L}) {
            Check.same("write(0, " + value + ", 0, 0)", x.write(0, value, 0, 0), before);
            Check.same("read(0, 1, 1)", x.read(0, 1, 1), value);
            Check.same("read(0, 0, 0)", x.read(0, 0, 0), value);
            before = value;
        }
    }

    /** "If a tree is full by that, nothing at all changes." */
    private static void treeOneFullChangesNothing() {
        refusedAsIfNeverAsked(new int[] {0, 15}, new int[] {4, 15});
    }

    private static void treeZeroFullChangesNothing() {
        refusedAsIfNeverAsked(new int[] {31, 0}, new int[] {31, 1});
    }

    private static void bothFullChangesNothing() {
        refusedAsIfNeverAsked(new int[] {31, 15}, new int[] {31, 15});
    }

    /** An object with refused calls, and one without them, answer all that follows alike. */
    private static void refusedAsIfNeverAsked(int[] firstCoins, int[] refusedCoins) {
        CoinTree x = new CoinTree(5, 1, 0, KEY);
        CoinTree y = new CoinTree(5, 1, 0, KEY);
        x.write(0, 7L, firstCoins[0], firstCoins[1]);
        y.write(0, 7L, firstCoins[0], firstCoins[1]);
        List<Long> before = Seen.all(x);
        Check.full("a write by which a tree is full", () -> x.write(4, 9L, refusedCoins[0], refusedCoins[1]));
        Check.full("a read by which a tree is full", () -> x.read(4, refusedCoins[0], refusedCoins[1]));
        Check.full("the same write again", () -> x.write(4, 9L, refusedCoins[0], refusedCoins[1]));
        Check.same("all behind the refused calls", Seen.all(x), before);
        for (int i = 0; i < 3; i++) {
            Check.same("block 4", x.read(4, 4, 1), y.read(4, 4, 1));
            Check.same("block 0", x.read(0, i, i), y.read(0, i, i));
            Check.same("block 1", x.read(1, 1, i), y.read(1, 1, i));
            Check.same("all of both objects", Seen.all(x), Seen.all(y));
        }
        Check.same("block 4 was never written", x.read(4, 4, 1), 0L);
    }

    private static void otherCoinsBehindARefusedCall() {
        CoinTree x = new CoinTree(5, 1, 0, KEY);
        x.write(0, 7L, 31, 15);
        Check.full("both trees full", () -> x.write(4, 9L, 31, 15));
        Check.full("tree 0 full", () -> x.write(4, 9L, 31, 1));
        Check.full("tree 1 full", () -> x.write(4, 9L, 4, 15));
        Check.same("room in both trees", x.write(4, 9L, 4, 1), 0L);
        Check.same("the block that was in the way", x.read(0, 31, 15), 7L);
        Check.same("room at the roots now", x.read(4, 31, 15), 9L);
    }

    /** "TRACES: of each time asked (that changed something)." */
    private static void tracesOfTimesThatChangedSomething() {
        CoinTree x = new CoinTree(5, 1, 0, KEY);
        x.read(0, 31, 15);
        Check.full("a full tree", () -> x.read(4, 31, 15));
        Check.noSuch("a wrong block", () -> x.read(64, 0, 0));
        Check.noLeaf("a wrong coin", () -> x.read(4, 32, 0));
        Check.noSuch("no trace of these in tree 0", () -> x.trace(0, 1));
        Check.noSuch("no trace of these in tree 1", () -> x.trace(1, 1));
        x.read(4, 4, 1);
        Check.same("the next trace in tree 0", x.trace(0, 1), 4);
        Check.same("the next trace in tree 1", x.trace(1, 1), 1);
        // A read with the coins that were there before leaves its traces like any other.
        x.read(4, 4, 1);
        Check.same("traces kept", x.count(8), 3);
        Check.same("a trace in tree 0 of the same way", x.trace(0, 2), 4);
        Check.same("a trace in tree 1 of the same way", x.trace(1, 2), 1);
    }
}

import java.util.List;

/** Promise 2: read tells a block's value, moves it to the coin, and refuses what the document says. */
public final class ReadTest {
    private static final int[] NO_BLOCKS = {Integer.MIN_VALUE, -1, 64, 65, Integer.MAX_VALUE};

    public static void main(String[] args) {
        aBlockNeverWrittenIsZero();
        theValueWrittenIsTold();
        theBlockGoesWhereTheCoinSays();
        wrongBlocks();
        wrongCoins();
        firstExceptionNamed();
        fullMapTreeChangesNothing();
        fullBlockTreeChangesNothing();
        Check.end("ReadTest");
    }

    private static void aBlockNeverWrittenIsZero() {
        CoinTree x = new CoinTree(5, 4, 40, 3L);
        for (int b = 0; b < 64; b++) {
            Check.same("read(" + b + ") of a new object", x.read(b, b % 32, b % 16), 0L);
            Check.same("its leaf at first", x.trace(0, b), b % 32);
            Check.same("its map block's leaf", x.trace(1, b), b % 4 == 0 ? b / 4 : (b - 1) % 16);
        }
        CoinTree y = new CoinTree(2, 4, 40, 3L);
        y.read(63, 0, 0);
        Check.same("the leaf of block 63, of 4 leaves", y.trace(0, 0), 3);
        Check.same("the leaf of map block 15, of 2 leaves", y.trace(1, 0), 1);
    }

    private static void theValueWrittenIsTold() {
        CoinTree x = new CoinTree(3, 4, 40, 3L);
        long[] values = {1L, -1L, Long.MIN_VALUE, Long.MAX_VALUE, 0L, 0x123456789ABCDEFL};
        for (int i = 0; i < values.length; i++) {
            x.write(10 * i, values[i], i, i % 4);
        }
        for (int again = 0; again < 3; again++) {
            for (int i = 0; i < values.length; i++) {
                Check.same("read(" + 10 * i + ")", x.read(10 * i, (i + again) % 8, again), values[i]);
            }
        }
    }

    private static void theBlockGoesWhereTheCoinSays() {
        CoinTree x = new CoinTree(2, 1, 2, 9L);
        x.read(0, 0, 0);
        Seen.slot(x, 9L, Seen.at(0, 4, 0), 0, 0, 0L);
        Seen.slot(x, 9L, Seen.at(1, 2, 0), 0, 0, 1L);
        x.read(0, 1, 1);
        Seen.slot(x, 9L, Seen.at(0, 4, 0), CoinTree.NONE, 0, 0L);
        Seen.slot(x, 9L, Seen.at(0, 2, 0), 0, 1, 0L);
        Seen.slot(x, 9L, Seen.at(1, 2, 0), CoinTree.NONE, 0, 0L);
        Seen.slot(x, 9L, Seen.at(1, 1, 0), 0, 1, 2L);
        x.read(0, 3, 1);
        Seen.slot(x, 9L, Seen.at(0, 2, 0), CoinTree.NONE, 0, 0L);
        Seen.slot(x, 9L, Seen.at(0, 1, 0), 0, 3, 0L);
        Seen.slot(x, 9L, Seen.at(1, 1, 0), CoinTree.NONE, 0, 0L);
        Seen.slot(x, 9L, Seen.at(1, 3, 0), 0, 1, 4L);
    }

    private static void wrongBlocks() {
        CoinTree x = new CoinTree(2, 1, 2, 0L);
        x.read(63, 3, 1);
        List<Long> before = Seen.all(x);
        for (int block : NO_BLOCKS) {
            Check.noSuch("read(" + block + ", 0, 0)", () -> x.read(block, 0, 0));
        }
        Check.same("all behind wrong blocks", Seen.all(x), before);
    }

    private static void wrongCoins() {
        CoinTree x = new CoinTree(2, 1, 2, 0L);
        x.read(0, 3, 1);
        List<Long> before = Seen.all(x);
        for (int coin : new int[] {Integer.MIN_VALUE, -1, 4, 5, Integer.MAX_VALUE}) {
            Check.noLeaf("read(0, " + coin + ", 0)", () -> x.read(0, coin, 0));
        }
        for (int coin : new int[] {Integer.MIN_VALUE, -1, 2, 3, Integer.MAX_VALUE}) {
            Check.noLeaf("read(0, 0, " + coin + ")", () -> x.read(0, 0, coin));
        }
        Check.same("all behind wrong coins", Seen.all(x), before);
    }

    private static void firstExceptionNamed() {
        CoinTree x = new CoinTree(5, 1, 0, 0L);
        Check.noSuch("no block, no leaves", () -> x.read(64, 32, 16));
        x.read(0, 0, 15);
        Check.noLeaf("no leaf, and map tree full", () -> x.read(4, 32, 15));
        Check.noSuch("no block, and map tree full", () -> x.read(-1, 4, 15));
    }

    private static void fullMapTreeChangesNothing() {
        CoinTree x = new CoinTree(5, 1, 0, 0L);
        x.read(0, 0, 15);
        List<Long> before = Seen.all(x);
        Check.full("two map blocks for one root", () -> x.read(4, 4, 15));
        Check.same("all behind a full map tree", Seen.all(x), before);
        x.read(4, 31, 1);
        Check.same("the leaf of block 4 was not made another one", x.trace(0, 1), 4);
        Check.same("the leaf of map block 1 was not made another one", x.trace(1, 1), 1);
    }

    private static void fullBlockTreeChangesNothing() {
        CoinTree x = new CoinTree(5, 1, 0, 0L);
        x.read(0, 31, 0);
        List<Long> before = Seen.all(x);
        Check.full("two blocks for one root", () -> x.read(4, 31, 2));
        Check.same("all behind a full block tree", Seen.all(x), before);
        x.read(4, 4, 1);
        Check.same("the leaf of block 4 was not made another one", x.trace(0, 1), 4);
        Check.same("the leaf of map block 1 was not made another one", x.trace(1, 1), 1);
    }
}

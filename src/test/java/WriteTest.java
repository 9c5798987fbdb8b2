import java.util.List;

/** Promise 3: write tells the value before and keeps the new one; it refuses what read refuses. */
public final class WriteTest {
    public static void main(String[] args) {
        theValueBeforeIsTold();
        allBlocksKeepTheirValues();
        neighboursInTheMapAreLeftAlone();
        wrongBlocksAndCoins();
        fullMapTreeChangesNothing();
        fullBlockTreeChangesNothing();
        stashAtItsCapacityIsNotFull();
        Check.end("WriteTest");
    }

    private static void theValueBeforeIsTold() {
        CoinTree x = new CoinTree(2, 1, 2, 4L);
        Check.same("the first write", x.write(9, Long.MIN_VALUE, 1, 0), 0L);
        Check.same("the second write", x.write(9, -1L, 2, 1), Long.MIN_VALUE);
        Check.same("the third write", x.write(9, 0L, 2, 1), -1L);
        Check.same("a read behind them", x.read(9, 0, 0), 0L);
    }

    private static void allBlocksKeepTheirValues() {
        CoinTree x = new CoinTree(5, 4, 40, 4L);
        for (int b = 0; b < 64; b++) {
            Check.same("write(" + b + ")", x.write(b, 1000L - b, b * 7 % 32, b * 5 % 16), 0L);
        }
        for (int b = 63; b >= 0; b--) {
            Check.same("write(" + b + ") again", x.write(b, b, b * 11 % 32, b * 3 % 16), 1000L - b);
        }
        for (int b = 0; b < 64; b++) {
            Check.same("read(" + b + ")", x.read(b, b % 32, b % 16), b);
        }
    }

    private static void neighboursInTheMapAreLeftAlone() {
        CoinTree x = new CoinTree(5, 4, 40, 4L);
        x.write(4, 40L, 31, 1);
        x.write(5, 50L, 0, 1);
        x.write(6, 60L, 16, 1);
        x.write(7, 70L, 30, 1);
        long numbers = 32L | 1L << 16 | 17L << 32 | 31L << 48;
        Seen.slot(x, 4L, Seen.at(1, 17, 0), 1, 1, numbers);
        for (int b = 4; b <= 7; b++) {
            Check.same("read(" + b + ")", x.read(b, 2, 1), b * 10L);
        }
        Check.same("the leaf of block 4", x.trace(0, 4), 31);
        Check.same("the leaf of block 5", x.trace(0, 5), 0);
        Check.same("the leaf of block 6", x.trace(0, 6), 16);
        Check.same("the leaf of block 7", x.trace(0, 7), 30);
    }

    private static void wrongBlocksAndCoins() {
        CoinTree x = new CoinTree(2, 1, 2, 0L);
        x.write(0, 5L, 3, 1);
        List<Long> before = Seen.all(x);
        for (int block : new int[] {Integer.MIN_VALUE, -1, 64, Integer.MAX_VALUE}) {
            Check.noSuch("write(" + block + ", 1, 0, 0)", () -> x.write(block, 1L, 0, 0));
            Check.noSuch("write(" + block + ", 1, -1, 2)", () -> x.write(block, 1L, -1, 2));
        }
        for (int coin : new int[] {Integer.MIN_VALUE, -1, 4, Integer.MAX_VALUE}) {
            Check.noLeaf("write(0, 1, " + coin + ", 0)", () -> x.write(0, 1L, coin, 0));
        }
        for (int coin : new int[] {Integer.MIN_VALUE, -1, 2, Integer.MAX_VALUE}) {
            Check.noLeaf("write(0, 1, 0, " + coin + ")", () -> x.write(0, 1L, 0, coin));
        }
        Check.same("all behind wrong calls", Seen.all(x), before);
        Check.same("the value behind wrong calls", x.read(0, 0, 0), 5L);
    }

    private static void fullMapTreeChangesNothing() {
        CoinTree x = new CoinTree(5, 1, 0, 0L);
        x.write(0, 1L, 0, 15);
        List<Long> before = Seen.all(x);
        Check.full("two map blocks for one root", () -> x.write(4, 2L, 4, 15));
        Check.noLeaf("no leaf, and map tree full", () -> x.write(4, 2L, -1, 15));
        Check.same("all behind a full map tree", Seen.all(x), before);
        Check.same("the value was not written", x.read(4, 4, 1), 0L);
    }

    private static void fullBlockTreeChangesNothing() {
        CoinTree x = new CoinTree(5, 1, 0, 0L);
        x.write(4, 9L, 4, 1);
        x.write(0, 1L, 31, 0);
        List<Long> before = Seen.all(x);
        Check.full("two blocks for one root", () -> x.write(4, 2L, 31, 2));
        Check.same("all behind a full block tree", Seen.all(x), before);
        Check.same("the value was not made another one", x.read(4, 4, 1), 9L);
        Check.same("the leaf of block 4", x.trace(0, 2), 4);
    }

    private static void stashAtItsCapacityIsNotFull() {
        CoinTree x = new CoinTree(5, 1, 1, 0L);
        x.write(0, 1L, 31, 0);
        x.write(4, 2L, 31, 1);
        Seen.stash(x, 0, 4);
        Check.full("one block beyond the capacity", () -> x.write(8, 3L, 31, 2));
        Seen.stash(x, 0, 4);
        Check.same("a block of the stash", x.read(4, 31, 1), 2L);
    }
}

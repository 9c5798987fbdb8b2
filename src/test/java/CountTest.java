/** Promise 8: count tells how many there are of each thing. */
public final class CountTest {
    public static void main(String[] args) {
        whatIsCounted();
        theMostThereWere();
        callsThatThrowAreNotCounted();
        noSuchWhat();
        Check.end("CountTest");
    }

    private static void whatIsCounted() {
        CoinTree x = new CoinTree(4, 3, 17, 0L);
        counts(x, 16, 8, 3, 17, 0, 0, 0, 0, 0);
        x.read(0, 15, 7);
        counts(x, 16, 8, 3, 17, 0, 0, 0, 1, 1);
        x.write(4, 1L, 15, 7);
        x.write(8, 1L, 0, 0);
        counts(x, 16, 8, 3, 17, 0, 0, 0, 3, 3);
    }

    private static void theMostThereWere() {
        CoinTree x = new CoinTree(5, 1, 40, 0L);
        x.read(0, 31, 0);
        x.read(4, 31, 1);
        counts(x, 32, 16, 1, 40, 1, 0, 1, 2, 2);
        x.read(8, 31, 2);
        counts(x, 32, 16, 1, 40, 2, 0, 2, 3, 3);
        // The way of leaf 31 has room for all three; the most there were stays.
        x.read(0, 31, 15);
        counts(x, 32, 16, 1, 40, 0, 0, 2, 4, 4);
        x.read(4, 30, 15);
        x.read(8, 30, 15);
        counts(x, 32, 16, 1, 40, 0, 2, 2, 6, 6);
    }

    private static void callsThatThrowAreNotCounted() {
        CoinTree x = new CoinTree(5, 1, 0, 0L);
        x.read(0, 0, 15);
        Check.noSuch("read(-1, 0, 0)", () -> x.read(-1, 0, 0));
        Check.noLeaf("write(0, 0, -1, 0)", () -> x.write(0, 0L, -1, 0));
        Check.full("write(4, 1, 4, 15)", () -> x.write(4, 1L, 4, 15));
        Check.full("write(4, 1, 4, 15), again", () -> x.write(4, 1L, 4, 15));
        counts(x, 32, 16, 1, 0, 0, 0, 0, 1, 1);
    }

    private static void noSuchWhat() {
        CoinTree x = new CoinTree(2, 1, 2, 0L);
        for (int what : new int[] {Integer.MIN_VALUE, -1, 9, 10, Integer.MAX_VALUE}) {
            Check.noSuch("count(" + what + ")", () -> x.count(what));
        }
    }

    private static void counts(CoinTree x, int... due) {
        for (int what = 0; what < due.length; what++) {
            Check.same("count(" + what + ")", x.count(what), due[what]);
        }
    }
}

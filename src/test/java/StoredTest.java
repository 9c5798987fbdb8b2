/** Promise 5: stored tells a word of a slot, sealed with the count of its node. */
public final class StoredTest {
    private static final long KEY = 0xFEDCBA9876543210L;

    public static void main(String[] args) {
        wordsWrittenOut();
        whereBlocksAreLaid();
        severalSlots();
        writtenAnewIsSealedAnew();
        noSuchWord();
        Check.end("StoredTest");
    }

    /** Numbers worked out outside of this program, from the formula of the document. */
    private static void wordsWrittenOut() {
        CoinTree x = new CoinTree(2, 1, 2, 0L);
        Check.same("stored(0, 1, 0, 0)", x.stored(0, 1, 0, 0), -5429194204717988468L);
        Check.same("stored(1, 3, 0, 2)", x.stored(1, 3, 0, 2), -3242141077426889646L);
        CoinTree y = new CoinTree(5, 4, 40, -1L);
        y.write(63, -2L, 31, 15);
        Check.same("stored(0, 63, 0, 0)", y.stored(0, 63, 0, 0), 997928387504579550L);
        Check.same("stored(0, 63, 0, 1)", y.stored(0, 63, 0, 1), -6863130771543321316L);
        Check.same("stored(0, 63, 0, 2)", y.stored(0, 63, 0, 2), -290193822258327216L);
        Check.same("stored(1, 31, 3, 2)", y.stored(1, 31, 3, 2), -8816806874382118491L);
    }

    private static void whereBlocksAreLaid() {
        CoinTree x = new CoinTree(2, 1, 2, KEY);
        x.write(0, 11L, 3, 1);
        Seen.slot(x, KEY, Seen.at(0, 1, 0), 0, 3, 11L);
        Seen.slot(x, KEY, Seen.at(1, 1, 0), 0, 1, 4L);
        x.write(1, 22L, 3, 1);
        Seen.slot(x, KEY, Seen.at(0, 1, 0), 0, 3, 11L);
        Seen.slot(x, KEY, Seen.at(1, 1, 0), CoinTree.NONE, 0, 0L);
        Seen.slot(x, KEY, Seen.at(1, 3, 0), 0, 1, 0x40004L);
        x.write(2, 33L, 3, 0);
        Seen.slot(x, KEY, Seen.at(0, 1, 0), 0, 3, 11L);
        Seen.slot(x, KEY, Seen.at(0, 3, 0), 1, 3, 22L);
        Seen.slot(x, KEY, Seen.at(0, 6, 0), CoinTree.NONE, 0, 0L);
        x.write(3, 44L, 3, 1);
        Seen.slot(x, KEY, Seen.at(0, 7, 0), 2, 3, 33L);
        Seen.slot(x, KEY, Seen.at(0, 3, 0), 0, 3, 11L);
        Seen.slot(x, KEY, Seen.at(0, 1, 0), 1, 3, 22L);
        Seen.slot(x, KEY, Seen.at(0, 2, 0), CoinTree.NONE, 0, 0L);
        Seen.stash(x, 0, 3);
    }

    private static void severalSlots() {
        CoinTree x = new CoinTree(1, 3, 2, KEY);
        x.write(0, 10L, 0, 0);
        x.write(2, 12L, 0, 0);
        x.write(4, 14L, 0, 0);
        Seen.slot(x, KEY, Seen.at(0, 2, 0), 0, 0, 10L);
        Seen.slot(x, KEY, Seen.at(0, 2, 1), 2, 0, 12L);
        Seen.slot(x, KEY, Seen.at(0, 2, 2), 4, 0, 14L);
        // Block 0 goes to the other leaf: the blocks behind it move up, and the last slot is empty.
        x.read(0, 1, 0);
        Seen.slot(x, KEY, Seen.at(0, 2, 0), 2, 0, 12L);
        Seen.slot(x, KEY, Seen.at(0, 2, 1), 4, 0, 14L);
        Seen.slot(x, KEY, Seen.at(0, 2, 2), CoinTree.NONE, 0, 0L);
        Seen.slot(x, KEY, Seen.at(0, 1, 0), 0, 1, 10L);
        Seen.slot(x, KEY, Seen.at(0, 1, 1), CoinTree.NONE, 0, 0L);
    }

    private static void writtenAnewIsSealedAnew() {
        CoinTree x = new CoinTree(2, 2, 2, KEY);
        x.write(0, 11L, 0, 0);
        for (int slot = 0; slot < 2; slot++) {
            for (int word = 0; word < 3; word++) {
                long onWay = x.stored(0, 4, slot, word);
                long besideWay = x.stored(0, 7, slot, word);
                x.read(0, 0, 0);
                Check.isTrue("a word of the way is sealed anew", x.stored(0, 4, slot, word) != onWay);
                Check.same("a word beside the way", x.stored(0, 7, slot, word), besideWay);
            }
        }
    }

    private static void noSuchWord() {
        CoinTree x = new CoinTree(2, 1, 2, KEY);
        for (int tree : new int[] {Integer.MIN_VALUE, -1, 2, Integer.MAX_VALUE}) {
            Check.noSuch("stored(" + tree + ", 1, 0, 0)", () -> x.stored(tree, 1, 0, 0));
        }
        for (int node : new int[] {Integer.MIN_VALUE, -1, 0, 8, Integer.MAX_VALUE}) {
            Check.noSuch("stored(0, " + node + ", 0, 0)", () -> x.stored(0, node, 0, 0));
        }
        for (int node : new int[] {Integer.MIN_VALUE, -1, 0, 4, 7, Integer.MAX_VALUE}) {
            Check.noSuch("stored(1, " + node + ", 0, 0)", () -> x.stored(1, node, 0, 0));
        }
        for (int slot : new int[] {Integer.MIN_VALUE, -1, 1, 4, Integer.MAX_VALUE}) {
            Check.noSuch("stored(0, 1, " + slot + ", 0)", () -> x.stored(0, 1, slot, 0));
        }
        for (int word : new int[] {Integer.MIN_VALUE, -1, 3, Integer.MAX_VALUE}) {
            Check.noSuch("stored(0, 1, 0, " + word + ")", () -> x.stored(0, 1, 0, word));
        }
        CoinTree y = new CoinTree(5, 4, 40, KEY);
        Seen.slot(y, KEY, Seen.at(0, 63, 3), CoinTree.NONE, 0, 0L);
        Seen.slot(y, KEY, Seen.at(1, 31, 3), CoinTree.NONE, 0, 0L);
        Check.noSuch("stored(0, 64, 0, 0)", () -> y.stored(0, 64, 0, 0));
        Check.noSuch("stored(1, 32, 0, 0)", () -> y.stored(1, 32, 0, 0));
        Check.noSuch("stored(0, 63, 4, 0)", () -> y.stored(0, 63, 4, 0));
    }
}

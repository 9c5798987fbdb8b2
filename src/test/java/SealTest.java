import java.math.BigInteger;
import java.util.HashSet;
import java.util.Set;

/** Section 3 of the document, WHAT IS STORED: a test for each sentence that has a boundary in it. */
public final class SealTest {
    private static final BigInteger ALL = BigInteger.ONE.shiftLeft(64);
    private static final long[] KEYS = {0L, 1L, -1L, Long.MIN_VALUE, Long.MAX_VALUE, 0x61C8864680B583EBL};

    public static void main(String[] args) {
        aNodeNeverWrittenHasEmptySlots();
        aNodeWrittenAndLeftEmpty();
        blockZeroIsNotAnEmptySlot();
        leafZeroAndValueZeroAreNotAnEmptySlot();
        numbersComeRoundAtSixtyFourBits();
        countsOfHundreds();
        sealsNeverComeTwice();
        Check.end("SealTest");
    }

    /** MIX and the sum under it in whole numbers, cut off at 64 bits by a modulo. */
    private static long seal(long key, int tree, int node, int slot, int word, int count) {
        long place = ((tree * 64L + node) * 4 + slot) * 4 + word;
        BigInteger z = BigInteger.valueOf(key)
                .add(BigInteger.valueOf(1000003).multiply(BigInteger.valueOf(place)))
                .add(new BigInteger("9E3779B97F4A7C15", 16).multiply(BigInteger.valueOf(count)))
                .mod(ALL);
        z = z.xor(z.shiftRight(30)).multiply(new BigInteger("BF58476D1CE4E5B9", 16)).mod(ALL);
        z = z.xor(z.shiftRight(27)).multiply(new BigInteger("94D049BB133111EB", 16)).mod(ALL);
        return z.xor(z.shiftRight(31)).longValue();
    }

    private static void words(CoinTree x, long key, int[] place, int count, long... due) {
        Check.same("the node's count", x.written(place[0], place[1]), count);
        for (int word = 0; word < 3; word++) {
            Check.same("stored(" + place[0] + ", " + place[1] + ", " + place[2] + ", " + word + "), key " + key,
                    x.stored(place[0], place[1], place[2], word),
                    due[word] ^ seal(key, place[0], place[1], place[2], word, count));
        }
    }

    /** "0: it was never written, then the sealed words are of an empty slot likewise." */
    private static void aNodeNeverWrittenHasEmptySlots() {
        CoinTree x = new CoinTree(5, 4, 40, 3L);
        x.write(0, -1L, 0, 0);
        for (int slot = 0; slot < 4; slot++) {
            words(x, 3L, Seen.at(0, 3, slot), 0, 0L, 0L, 0L);
            words(x, 3L, Seen.at(0, 63, slot), 0, 0L, 0L, 0L);
            words(x, 3L, Seen.at(1, 31, slot), 0, 0L, 0L, 0L);
        }
    }

    /** "0 if it is empty", "0 and 0 if it is empty": behind blocks that were there, with the new count. */
    private static void aNodeWrittenAndLeftEmpty() {
        CoinTree x = new CoinTree(1, 1, 0, 3L);
        x.write(63, -1L, 1, 1);
        words(x, 3L, Seen.at(0, 3, 0), 1, 64L, 1L, -1L);
        words(x, 3L, Seen.at(1, 3, 0), 1, 16L, 1L, 2L << 48);
        x.read(63, 0, 0);
        words(x, 3L, Seen.at(0, 3, 0), 2, 0L, 0L, 0L);
        words(x, 3L, Seen.at(1, 3, 0), 2, 0L, 0L, 0L);
    }

    /** "The block's number and 1": block 0 of either tree. */
    private static void blockZeroIsNotAnEmptySlot() {
        CoinTree x = new CoinTree(2, 1, 0, 3L);
        x.read(0, 3, 1);
        words(x, 3L, Seen.at(0, 1, 0), 1, 1L, 3L, 0L);
        words(x, 3L, Seen.at(1, 1, 0), 1, 1L, 1L, 4L);
    }

    private static void leafZeroAndValueZeroAreNotAnEmptySlot() {
        CoinTree x = new CoinTree(2, 1, 0, 3L);
        x.read(63, 0, 0);
        words(x, 3L, Seen.at(0, 1, 0), 1, 64L, 0L, 0L);
        Check.same("the block is there still", x.read(63, 0, 0), 0L);
        words(x, 3L, Seen.at(0, 4, 0), 1, 64L, 0L, 0L);
    }

    /** "Numbers hexadecimal, 64 bits", "moved down .. with 0s": keys that carry the sum over the end. */
    private static void numbersComeRoundAtSixtyFourBits() {
        for (long key : KEYS) {
            CoinTree x = new CoinTree(5, 4, 40, key);
            x.write(63, Long.MIN_VALUE, 31, 15);
            for (int tree = 0; tree <= 1; tree++) {
                for (int node = 1; node < 2 * x.count(tree) - 1; node++) {
                    int count = Integer.bitCount(node + 1) == 1 ? 1 : 0;
                    for (int slot = 0; slot < 4; slot++) {
                        words(x, key, Seen.at(tree, node, slot), count, 0L, 0L, 0L);
                    }
                }
            }
            words(x, key, Seen.at(0, 63, 0), 1, 64L, 31L, Long.MIN_VALUE);
            words(x, key, Seen.at(0, 63, 3), 1, 0L, 0L, 0L);
            words(x, key, Seen.at(1, 31, 0), 1, 16L, 15L, 32L << 48);
        }
    }

    private static void countsOfHundreds() {
        CoinTree x = new CoinTree(1, 1, 0, Long.MAX_VALUE);
        for (int count = 1; count <= 500; count++) {
            x.write(0, count, 0, 0);
        }
        words(x, Long.MAX_VALUE, Seen.at(0, 2, 0), 500, 1L, 0L, 500L);
        words(x, Long.MAX_VALUE, Seen.at(0, 1, 0), 500, 0L, 0L, 0L);
    }

    /** "Sealed with numbers that never come twice": of empty slots one sees the seals themselves. */
    private static void sealsNeverComeTwice() {
        CoinTree x = new CoinTree(5, 4, 40, -1L);
        Set<Long> seen = new HashSet<>();
        for (int tree = 0; tree <= 1; tree++) {
            for (int node = 1; node < 2 * x.count(tree); node++) {
                seeWords(x, tree, node, 0, seen);
            }
        }
        for (int i = 0; i < 50; i++) {
            x.read(0, 0, 0);
            for (int node = 1; node <= 32; node *= 2) {
                seeWords(x, 0, node, 1, seen);
            }
        }
    }

    private static void seeWords(CoinTree x, int tree, int node, int firstSlot, Set<Long> seen) {
        for (int slot = firstSlot; slot < 4; slot++) {
            for (int word = 0; word < 3; word++) {
                Check.isTrue("a seal not seen before", seen.add(x.stored(tree, node, slot, word)));
            }
        }
    }
}

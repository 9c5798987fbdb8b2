/** "An object is used for at most 512 calls after it has been made": the last of them still holds. */
public final class LastCallTest {
    private static final int CALLS = 512;
    private static final long KEY = 99L;

    public static void main(String[] args) {
        theLastAsk();
        theLastTraces();
        theLastCounts();
        theLastSeal();
        theLastRefusals();
        theStashAtItsMost();
        Check.end("LastCallTest");
    }

    /** An object that has been asked so often: blocks 0 to 63 in turn, each with the number of its ask. */
    private static CoinTree asked(int times) {
        CoinTree x = new CoinTree(5, 4, 40, KEY);
        for (int i = 0; i < times; i++) {
            Check.same("ask " + i, x.write(i % 64, i, coin(i), i % 16), i < 64 ? 0L : i - 64L);
        }
        return x;
    }

    private static int coin(int i) {
        return (i * 7 + 3) % 32;
    }

    private static void theLastAsk() {
        int last = CALLS - 1;
        Check.same("the last read", asked(last).read(last % 64, 0, 0), last - 64L);
        Check.same("the last write", asked(last).write(0, 1L, 31, 15), last / 64 * 64L);
    }

    /** "The latest 600 are kept, the oldest of these is 0": 511 are fewer, so the first is there still. */
    private static void theLastTraces() {
        int last = CALLS - 2;
        Check.same("the first trace in tree 0", asked(CALLS - 1).trace(0, 0), 0);
        Check.same("the first trace in tree 1", asked(CALLS - 1).trace(1, 0), 0);
        Check.same("the second trace in tree 0", asked(CALLS - 1).trace(0, 1), 1);
        Check.same("the last trace in tree 0", asked(CALLS - 1).trace(0, last), coin(last - 64));
        Check.same("the last trace in tree 1", asked(CALLS - 1).trace(1, last), (last - 1) % 16);
    }

    private static void theLastCounts() {
        Check.same("times asked", asked(CALLS - 1).count(7), CALLS - 1);
        Check.same("traces kept", asked(CALLS - 1).count(8), CALLS - 1);
        Check.same("written(0, 1)", asked(CALLS - 1).written(0, 1), CALLS - 1);
        Check.same("written(1, 1)", asked(CALLS - 1).written(1, 1), CALLS - 1);
    }

    private static void theLastSeal() {
        CoinTree x = new CoinTree(1, 1, 0, KEY);
        for (int i = 0; i < CALLS - 1; i++) {
            x.write(0, i, 0, 0);
        }
        Check.same("the last word", x.stored(0, 2, 0, 2), (CALLS - 2L) ^ Seen.pad(KEY, 0, 2, 0, 2, CALLS - 1L));
    }

    private static void theLastRefusals() {
        CoinTree x = asked(CALLS - 1);
        Check.noSuch("a trace behind the last one", () -> x.trace(0, CALLS - 1));
        CoinTree y = asked(CALLS - 1);
        Check.noSuch("a wrong block", () -> y.read(64, 0, 0));
        CoinTree z = asked(CALLS - 1);
        Check.noLeaf("a wrong coin", () -> z.read(0, 32, 0));
    }

    /** Promise 8: "the most there were in the first one" stays when the stash is empty again. */
    private static void theStashAtItsMost() {
        CoinTree x = new CoinTree(5, 4, 40, KEY);
        for (int b = 0; b < 16; b++) {
            x.read(b, 31, b / 4);
        }
        Check.same("blocks in the stash", x.count(4), 12);
        Check.same("the most there were", x.count(6), 12);
        x.read(31, 31, 7);
        Check.same("blocks in the stash, with room on the way", x.count(4), 0);
        Check.same("the most there were, still", x.count(6), 12);
        for (int calls = 21; calls < CALLS - 1; calls++) {
            x.read(31, 31, 7);
        }
        Check.same("the most there were, at the last call", x.count(6), 12);
    }
}

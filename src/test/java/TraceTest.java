/** Promise 4: trace tells the leaves whose ways were read, the oldest kept first. */
public final class TraceTest {
    public static void main(String[] args) {
        leavesBeforeTheCoins();
        callsThatThrowLeaveNone();
        noSuchTrace();
        manyTraces();
        Check.end("TraceTest");
    }

    private static void leavesBeforeTheCoins() {
        CoinTree x = new CoinTree(3, 4, 40, 0L);
        x.read(13, 5, 2);
        x.write(13, 1L, 0, 1);
        x.read(13, 7, 0);
        x.read(12, 4, 3);
        x.read(13, 7, 3);
        int[] leaves = {13 % 8, 5, 0, 12 % 8, 7};
        int[] mapLeaves = {3, 2, 1, 0, 3};
        for (int k = 0; k < leaves.length; k++) {
            Check.same("trace(0, " + k + ")", x.trace(0, k), leaves[k]);
            Check.same("trace(1, " + k + ")", x.trace(1, k), mapLeaves[k]);
        }
    }

    private static void callsThatThrowLeaveNone() {
        CoinTree x = new CoinTree(5, 1, 0, 0L);
        x.read(0, 0, 15);
        Check.noSuch("read(64, 0, 0)", () -> x.read(64, 0, 0));
        Check.noLeaf("read(0, 32, 0)", () -> x.read(0, 32, 0));
        Check.full("read(4, 4, 15)", () -> x.read(4, 4, 15));
        Check.same("traces kept", x.count(8), 1);
        Check.noSuch("trace(0, 1)", () -> x.trace(0, 1));
        Check.noSuch("trace(1, 1)", () -> x.trace(1, 1));
    }

    private static void noSuchTrace() {
        CoinTree x = new CoinTree(2, 1, 2, 0L);
        Check.noSuch("trace(0, 0) of a new object", () -> x.trace(0, 0));
        Check.noSuch("trace(1, 0) of a new object", () -> x.trace(1, 0));
        x.read(0, 3, 1);
        for (int tree : new int[] {Integer.MIN_VALUE, -1, 2, Integer.MAX_VALUE}) {
            Check.noSuch("trace(" + tree + ", 0)", () -> x.trace(tree, 0));
        }
        for (int k : new int[] {Integer.MIN_VALUE, -1, 1, 600, Integer.MAX_VALUE}) {
            Check.noSuch("trace(0, " + k + ")", () -> x.trace(0, k));
            Check.noSuch("trace(1, " + k + ")", () -> x.trace(1, k));
        }
    }

    /** Beyond 512 calls answers are free; the ring is tested so that it stays whole all the same. */
    private static void manyTraces() {
        CoinTree x = new CoinTree(5, 4, 40, 0L);
        for (int asked = 1; asked <= 1500; asked++) {
            x.read(0, leafOf(asked), mapLeafOf(asked));
            int kept = Math.min(asked, 600);
            Check.same("traces kept of " + asked, x.count(8), kept);
            if (asked % 100 <= 1 || asked == 512) {
                for (int k = 0; k < kept; k++) {
                    Check.same("trace(0, " + k + ") of " + asked, x.trace(0, k), leafOf(asked - kept + k));
                    Check.same("trace(1, " + k + ") of " + asked, x.trace(1, k), mapLeafOf(asked - kept + k));
                }
            }
            Check.noSuch("trace behind the last one", () -> x.trace(0, kept));
        }
    }

    private static int leafOf(int asked) {
        return asked == 0 ? 0 : (asked * 7 + asked / 32) % 32;
    }

    private static int mapLeafOf(int asked) {
        return asked == 0 ? 0 : (asked * 5 + asked / 16) % 16;
    }
}

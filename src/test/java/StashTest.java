/** Promise 7: stash tells the blocks of a tree's stash in their order, and NONE behind the last one. */
public final class StashTest {
    public static void main(String[] args) {
        orderInTheStash();
        stashOfTheMap();
        placesBehindAndBefore();
        behindTheLastOneOfAStashThatShrank();
        behindTheLastOneOfAMapStashThatShrank();
        Check.same("NONE", CoinTree.NONE, -1);
        Check.end("StashTest");
    }

    private static void orderInTheStash() {
        CoinTree x = new CoinTree(2, 1, 2, 0L);
        Seen.stash(x, 0);
        x.write(0, 11L, 3, 1);
        Seen.stash(x, 0);
        x.write(1, 22L, 3, 1);
        Seen.stash(x, 0, 1);
        x.write(2, 33L, 3, 0);
        Seen.stash(x, 0, 2);
        x.write(3, 44L, 3, 1);
        Seen.stash(x, 0, 3);
        x.write(4, 55L, 3, 1);
        Seen.stash(x, 0, 1, 4);
        Check.full("a third block for the stash", () -> x.write(5, 66L, 3, 0));
        Seen.stash(x, 0, 1, 4);
        // Block 1 keeps its place: [1, 4] and 3, 0, 2 of the way; 1, 4 and 3 find room, leaf first.
        x.read(1, 3, 0);
        Seen.stash(x, 0, 0, 2);
    }

    private static void stashOfTheMap() {
        CoinTree x = new CoinTree(5, 1, 3, 0L);
        x.read(0, 0, 15);
        Seen.stash(x, 1);
        x.read(4, 4, 15);
        Seen.stash(x, 1, 1);
        x.read(8, 8, 15);
        Seen.stash(x, 1, 0, 2);
        x.read(12, 12, 15);
        Seen.stash(x, 1, 2, 1, 3);
        Check.full("a fourth map block for the stash", () -> x.read(16, 16, 15));
        Seen.stash(x, 1, 2, 1, 3);
        Seen.stash(x, 0);
    }

    private static void placesBehindAndBefore() {
        CoinTree x = new CoinTree(5, 1, 40, 0L);
        x.read(0, 31, 15);
        x.read(4, 31, 15);
        for (int tree = 0; tree <= 1; tree++) {
            int t = tree;
            for (int k : new int[] {1, 39, 40, 41, 64, Integer.MAX_VALUE}) {
                Check.same("stash(" + t + ", " + k + ")", x.stash(t, k), CoinTree.NONE);
            }
            for (int k : new int[] {-1, Integer.MIN_VALUE}) {
                Check.noSuch("stash(" + t + ", " + k + ")", () -> x.stash(t, k));
            }
        }
        for (int tree : new int[] {Integer.MIN_VALUE, -1, 2, Integer.MAX_VALUE}) {
            Check.noSuch("stash(" + tree + ", 0)", () -> x.stash(tree, 0));
            Check.noSuch("stash(" + tree + ", -1)", () -> x.stash(tree, -1));
        }
    }

    /** The way of leaf 31 takes six blocks when it is read: some of those in the stash, or all of them. */
    private static void behindTheLastOneOfAStashThatShrank() {
        for (int blocks = 1; blocks <= 12; blocks++) {
            CoinTree x = new CoinTree(5, 1, 40, 0L);
            for (int b = 0; b < blocks; b++) {
                x.read(b, 31, b / 4);
            }
            places(x, 0, blocks - 1);
            x.read(31, 31, 7);
            places(x, 0, Math.max(0, blocks + 1 - 6));
        }
    }

    private static void behindTheLastOneOfAMapStashThatShrank() {
        CoinTree x = new CoinTree(5, 1, 40, 0L);
        for (int m = 0; m < 4; m++) {
            x.read(4 * m, 4 * m, 15);
        }
        places(x, 1, 3);
        x.read(60, 28, 15);
        places(x, 1, 0);
    }

    private static void places(CoinTree x, int tree, int blocks) {
        Check.same("blocks in stash " + tree, x.count(4 + tree), blocks);
        for (int k = 0; k <= 12; k++) {
            Check.isTrue("stash(" + tree + ", " + k + ") of " + blocks,
                    (x.stash(tree, k) == CoinTree.NONE) == (k >= blocks));
        }
    }
}

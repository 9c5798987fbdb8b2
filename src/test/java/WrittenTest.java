/** Promise 6: written tells how often a node was written. */
public final class WrittenTest {
    public static void main(String[] args) {
        eachNodeOfTheWayOnce();
        callsThatThrowWriteNothing();
        noSuchNode();
        Check.end("WrittenTest");
    }

    private static void eachNodeOfTheWayOnce() {
        CoinTree x = new CoinTree(3, 1, 10, 0L);
        x.read(6, 1, 3);
        nodes(x, 0, 1, 0, 1, 0, 0, 0, 1, 0, 0, 0, 0, 0, 0, 1, 0);
        nodes(x, 1, 1, 1, 0, 0, 1, 0, 0);
        x.write(6, 5L, 2, 0);
        nodes(x, 0, 2, 1, 1, 1, 0, 0, 1, 0, 1, 0, 0, 0, 0, 1, 0);
        nodes(x, 1, 2, 1, 1, 0, 1, 0, 1);
        x.read(6, 2, 0);
        x.read(6, 2, 0);
        nodes(x, 0, 4, 3, 1, 1, 2, 0, 1, 0, 1, 2, 0, 0, 0, 1, 0);
        nodes(x, 1, 4, 3, 1, 2, 1, 0, 1);
    }

    private static void nodes(CoinTree x, int tree, int... due) {
        for (int i = 0; i < due.length; i++) {
            Check.same("written(" + tree + ", " + (i + 1) + ")", x.written(tree, i + 1), due[i]);
        }
    }

    private static void callsThatThrowWriteNothing() {
        CoinTree x = new CoinTree(5, 1, 0, 0L);
        x.read(0, 0, 15);
        Check.noSuch("read(64, 0, 0)", () -> x.read(64, 0, 0));
        Check.noLeaf("read(0, 0, 16)", () -> x.read(0, 0, 16));
        Check.full("read(4, 4, 15)", () -> x.read(4, 4, 15));
        Check.same("written(0, 1)", x.written(0, 1), 1);
        Check.same("written(1, 1)", x.written(1, 1), 1);
    }

    private static void noSuchNode() {
        for (int levels = 1; levels <= 5; levels++) {
            CoinTree x = new CoinTree(levels, 1, 2, 0L);
            int end = 2 << levels;
            int mapEnd = levels == 1 ? 4 : 1 << levels;
            Check.same("written of the last node of tree 0", x.written(0, end - 1), 0);
            Check.same("written of the last node of tree 1", x.written(1, mapEnd - 1), 0);
            for (int node : new int[] {Integer.MIN_VALUE, -1, 0, end, Integer.MAX_VALUE}) {
                Check.noSuch("written(0, " + node + ")", () -> x.written(0, node));
            }
            for (int node : new int[] {Integer.MIN_VALUE, -1, 0, mapEnd, Integer.MAX_VALUE}) {
                Check.noSuch("written(1, " + node + ")", () -> x.written(1, node));
            }
            for (int tree : new int[] {Integer.MIN_VALUE, -1, 2, Integer.MAX_VALUE}) {
                Check.noSuch("written(" + tree + ", 1)", () -> x.written(tree, 1));
            }
        }
    }
}

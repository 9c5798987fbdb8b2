/** Promise 1: a new object has the nearest levels, slots and capacity there can be, and is empty. */
public final class NewObjectTest {
    public static void main(String[] args) {
        levels();
        slots();
        capacity();
        allIsEmpty(2, 3, 4, 0L);
        allIsEmpty(5, 4, 40, Long.MIN_VALUE);
        allIsEmpty(1, 1, 0, -1L);
        theKeySeals();
        objectsAreApart();
        Check.end("NewObjectTest");
    }

    private static void levels() {
        int[] wanted = {Integer.MIN_VALUE, -1, 0, 1, 2, 3, 4, 5, 6, Integer.MAX_VALUE};
        int[] leaves = {2, 2, 2, 2, 4, 8, 16, 32, 32, 32};
        int[] mapLeaves = {2, 2, 2, 2, 2, 4, 8, 16, 16, 16};
        for (int i = 0; i < wanted.length; i++) {
            CoinTree x = new CoinTree(wanted[i], 2, 2, 7L);
            Check.same("leaves of tree 0 for levels " + wanted[i], x.count(0), leaves[i]);
            Check.same("leaves of tree 1 for levels " + wanted[i], x.count(1), mapLeaves[i]);
        }
    }

    private static void slots() {
        int[] wanted = {Integer.MIN_VALUE, -1, 0, 1, 2, 3, 4, 5, Integer.MAX_VALUE};
        int[] due = {1, 1, 1, 1, 2, 3, 4, 4, 4};
        for (int i = 0; i < wanted.length; i++) {
            CoinTree x = new CoinTree(2, wanted[i], 2, 7L);
            Check.same("slots for " + wanted[i], x.count(2), due[i]);
        }
    }

    private static void capacity() {
        int[] wanted = {Integer.MIN_VALUE, -1, 0, 1, 39, 40, 41, Integer.MAX_VALUE};
        int[] due = {0, 0, 0, 1, 39, 40, 40, 40};
        for (int i = 0; i < wanted.length; i++) {
            CoinTree x = new CoinTree(2, 2, wanted[i], 7L);
            Check.same("capacity for " + wanted[i], x.count(3), due[i]);
        }
    }

    private static void allIsEmpty(int levels, int slots, int capacity, long key) {
        CoinTree x = new CoinTree(levels, slots, capacity, key);
        for (int tree = 0; tree <= 1; tree++) {
            for (int node = 1; node < 2 * x.count(tree); node++) {
                Check.same("written(" + tree + ", " + node + ")", x.written(tree, node), 0);
                for (int slot = 0; slot < slots; slot++) {
                    Seen.slot(x, key, Seen.at(tree, node, slot), CoinTree.NONE, 0, 0L);
                }
            }
            Seen.stash(x, tree);
        }
        for (int what = 4; what <= 8; what++) {
            Check.same("count(" + what + ") of a new object", x.count(what), 0);
        }
    }

    private static void theKeySeals() {
        CoinTree x = new CoinTree(2, 1, 2, 0L);
        CoinTree y = new CoinTree(2, 1, 2, 1L);
        Check.isTrue("another key seals otherwise", x.stored(0, 1, 0, 0) != y.stored(0, 1, 0, 0));
    }

    private static void objectsAreApart() {
        CoinTree x = new CoinTree(2, 1, 2, 0L);
        CoinTree y = new CoinTree(2, 1, 2, 0L);
        x.write(0, 11L, 3, 1);
        Check.same("times asked of an object beside", y.count(7), 0);
        Check.same("a block of an object beside", y.read(0, 3, 1), 0L);
    }
}

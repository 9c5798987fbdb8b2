import java.util.ArrayList;
import java.util.List;

/** What the face of an object shows, and its words with the seal taken off. */
final class Seen {
    private Seen() {
    }

    /** Every answer that does not change the object, so that two of these tell if a call changed it. */
    static List<Long> all(CoinTree x) {
        List<Long> answers = new ArrayList<>();
        for (int what = 0; what <= 8; what++) {
            answers.add((long) x.count(what));
        }
        for (int tree = 0; tree <= 1; tree++) {
            for (int node = 1; node < 2 * x.count(tree); node++) {
                answers.add((long) x.written(tree, node));
                for (int slot = 0; slot < x.count(2); slot++) {
                    for (int word = 0; word < 3; word++) {
                        answers.add(x.stored(tree, node, slot, word));
                    }
                }
            }
            for (int k = 0; k <= x.count(4 + tree) + 1; k++) {
                answers.add((long) x.stash(tree, k));
            }
            for (int k = 0; k < x.count(8); k++) {
                answers.add((long) x.trace(tree, k));
            }
        }
        return answers;
    }

    static long pad(long key, int tree, int node, int slot, int word, long count) {
        long z = key + 1000003L * (((tree * 64L + node) * 4 + slot) * 4 + word) + 0x9E3779B97F4A7C15L * count;
        z = (z ^ (z >>> 30)) * 0xBF58476D1CE4E5B9L;
        z = (z ^ (z >>> 27)) * 0x94D049BB133111EBL;
        return z ^ (z >>> 31);
    }

    static long open(CoinTree x, long key, int tree, int node, int slot, int word) {
        return x.stored(tree, node, slot, word) ^ pad(key, tree, node, slot, word, x.written(tree, node));
    }

    /** The three words of a slot, opened; block is the number itself, or -1 for an empty slot. */
    static void slot(CoinTree x, long key, int[] place, int block, int leaf, long value) {
        String what = "tree " + place[0] + ", node " + place[1] + ", slot " + place[2] + ", word ";
        Check.same(what + 0, open(x, key, place[0], place[1], place[2], 0), block + 1L);
        Check.same(what + 1, open(x, key, place[0], place[1], place[2], 1), leaf);
        Check.same(what + 2, open(x, key, place[0], place[1], place[2], 2), value);
    }

    static int[] at(int tree, int node, int slot) {
        return new int[] {tree, node, slot};
    }

    static void stash(CoinTree x, int tree, int... blocks) {
        Check.same("blocks in stash " + tree, x.count(4 + tree), blocks.length);
        for (int k = 0; k < blocks.length; k++) {
            Check.same("stash(" + tree + ", " + k + ")", x.stash(tree, k), blocks[k]);
        }
        Check.same("stash " + tree + " behind its last one", x.stash(tree, blocks.length), CoinTree.NONE);
    }
}

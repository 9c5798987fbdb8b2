import java.util.ArrayList;
import java.util.List;
import java.util.function.LongUnaryOperator;

/**
 * The document told a second time, without regard to speed: each ask works on copies of both trees
 * that replace the trees at its end, and words are sealed when their node is written.
 */
final class SlowModel {
    record Block(int number, int leaf, long value) {
    }

    static final class Node {
        final List<Block> blocks = new ArrayList<>();
        long[][] sealed;
        int count;
    }

    static final class Tree {
        final int number;
        final int levels;
        final List<Node> nodes = new ArrayList<>();
        final List<Block> stash = new ArrayList<>();

        Tree(int number, int levels) {
            this.number = number;
            this.levels = levels;
        }

        int leaves() {
            int leaves = 1;
            for (int i = 0; i < levels; i++) {
                leaves *= 2;
            }
            return leaves;
        }

        /** From the leaf up to the root, by halving. */
        List<Integer> wayUp(int leaf) {
            List<Integer> way = new ArrayList<>();
            for (int node = leaves() + leaf; node >= 1; node /= 2) {
                way.add(node);
            }
            return way;
        }

        Tree copy() {
            Tree other = new Tree(number, levels);
            for (Node node : nodes) {
                Node same = new Node();
                same.blocks.addAll(node.blocks);
                same.sealed = node.sealed;
                same.count = node.count;
                other.nodes.add(same);
            }
            other.stash.addAll(stash);
            return other;
        }
    }

    final int slots;
    final int capacity;
    final long key;
    Tree[] trees = new Tree[2];
    final int[] mapLeaf = new int[16];
    final List<int[]> traces = new ArrayList<>();
    int keptFrom;
    int most;

    SlowModel(int levels, int slots, int capacity, long key) {
        int nearestLevels = levels < 1 ? 1 : levels > 5 ? 5 : levels;
        this.slots = slots < 1 ? 1 : slots > 4 ? 4 : slots;
        this.capacity = capacity < 0 ? 0 : capacity > 40 ? 40 : capacity;
        this.key = key;
        trees[0] = new Tree(0, nearestLevels);
        trees[1] = new Tree(1, nearestLevels == 1 ? 1 : nearestLevels - 1);
        for (Tree tree : trees) {
            for (int n = 0; n < 2 * tree.leaves(); n++) {
                Node node = new Node();
                tree.nodes.add(node);
                seal(tree, n);
            }
        }
        for (int m = 0; m < 16; m++) {
            mapLeaf[m] = m % trees[1].leaves();
        }
    }

    private void seal(Tree tree, int n) {
        Node node = tree.nodes.get(n);
        node.sealed = new long[slots][3];
        for (int s = 0; s < slots; s++) {
            boolean empty = s >= node.blocks.size();
            long[] words = new long[3];
            if (!empty) {
                Block block = node.blocks.get(s);
                words = new long[] {block.number() + 1, block.leaf(), block.value()};
            }
            for (int w = 0; w < 3; w++) {
                node.sealed[s][w] = words[w] ^ Seen.pad(key, tree.number, n, s, w, node.count);
            }
        }
    }

    /** What the visit told, or null if the tree is full by it. */
    private long[] visit(Tree tree, int b, int x, int coin, LongUnaryOperator change) {
        List<Integer> up = tree.wayUp(x);
        for (int i = up.size() - 1; i >= 0; i--) {
            Node node = tree.nodes.get(up.get(i));
            tree.stash.addAll(node.blocks);
            node.blocks.clear();
        }
        int place = -1;
        for (int i = 0; i < tree.stash.size(); i++) {
            if (tree.stash.get(i).number() == b) {
                place = i;
            }
        }
        if (place < 0) {
            place = tree.stash.size();
            tree.stash.add(new Block(b, x, 0));
        }
        long told = tree.stash.get(place).value();
        tree.stash.set(place, new Block(b, coin, change.applyAsLong(told)));
        for (int n : up) {
            Node node = tree.nodes.get(n);
            for (int i = 0; i < tree.stash.size() && node.blocks.size() < slots; ) {
                if (tree.wayUp(tree.stash.get(i).leaf()).contains(n)) {
                    node.blocks.add(tree.stash.remove(i));
                } else {
                    i++;
                }
            }
            node.count++;
            seal(tree, n);
        }
        return tree.stash.size() > capacity ? null : new long[] {told};
    }

    /** 'i', 'a', 'u' for the exceptions; 'v' and the value otherwise. */
    static final class Answer {
        final char kind;
        final long value;

        Answer(char kind, long value) {
            this.kind = kind;
            this.value = value;
        }
    }

    Answer ask(int block, Long newValue, int coin, int mapCoin) {
        if (block < 0 || block > 63) {
            return new Answer('i', 0);
        }
        if (coin < 0 || coin >= trees[0].leaves() || mapCoin < 0 || mapCoin >= trees[1].leaves()) {
            return new Answer('a', 0);
        }
        Tree[] next = {trees[0].copy(), trees[1].copy()};
        int m = block / 4;
        int k = block % 4;
        int mapX = mapLeaf[m];
        long[] numbers = visit(next[1], m, mapX, mapCoin, v -> replace(v, k, coin + 1));
        if (numbers == null) {
            return new Answer('u', 0);
        }
        int told = number(numbers[0], k);
        int x = told == 0 ? block % trees[0].leaves() : told - 1;
        long[] value = visit(next[0], block, x, coin, v -> newValue == null ? v : newValue);
        if (value == null) {
            return new Answer('u', 0);
        }
        trees = next;
        mapLeaf[m] = mapCoin;
        traces.add(new int[] {x, mapX});
        if (traces.size() > 600) {
            keptFrom++;
        }
        most = Math.max(most, trees[0].stash.size());
        return new Answer('v', value[0]);
    }

    private static int number(long value, int k) {
        String hex = String.format("%016x", value);
        return Integer.parseInt(hex.substring(12 - 4 * k, 16 - 4 * k), 16);
    }

    private static long replace(long value, int k, int number) {
        String hex = String.format("%016x", value);
        return Long.parseUnsignedLong(
                hex.substring(0, 12 - 4 * k) + String.format("%04x", number) + hex.substring(16 - 4 * k), 16);
    }

    /** The same answers, in the same order, as Seen.all(). */
    List<Long> all() {
        List<Long> answers = new ArrayList<>();
        int kept = traces.size() - keptFrom;
        int[] counts = {trees[0].leaves(), trees[1].leaves(), slots, capacity, trees[0].stash.size(),
            trees[1].stash.size(), most, traces.size(), kept};
        for (int count : counts) {
            answers.add((long) count);
        }
        for (Tree tree : trees) {
            for (int n = 1; n < tree.nodes.size(); n++) {
                answers.add((long) tree.nodes.get(n).count);
                for (long[] words : tree.nodes.get(n).sealed) {
                    for (long word : words) {
                        answers.add(word);
                    }
                }
            }
            for (Block block : tree.stash) {
                answers.add((long) block.number());
            }
            answers.add(-1L);
            answers.add(-1L);
            for (int k = 0; k < kept; k++) {
                answers.add((long) traces.get(keptFrom + k)[tree.number]);
            }
        }
        return answers;
    }
}

/**
 * A store of blocks that tells nobody which block is asked for: each time one way of a tree is
 * read and written anew. Where the blocks of tree 0 are is kept in tree 1.
 */
public final class CoinTree {
    public static final int NONE = -1;

    private static final int MOST_LEVELS = 5;
    private static final int MOST_SLOTS = 4;
    private static final int MOST_CAPACITY = 40;
    private static final int BLOCKS = 64;
    private static final int MAP_BLOCKS = 16;
    private static final int TRACES = 600;

    private static final int NUMBERS_PER_VALUE = 4;
    private static final int NUMBER_BITS = 16;
    private static final long NUMBER_MASK = 0xFFFFL;

    private static final int WORDS = 3;
    private static final int MARK_WORD = 0;
    private static final int LEAF_WORD = 1;
    private static final int NO_MARK = 0;

    private static final int SEAL_NODES = 64;
    private static final int SEAL_SLOTS = 4;
    private static final int SEAL_WORDS = 4;
    private static final long PLACE_STEP = 1000003L;
    private static final long COUNT_STEP = 0x9E3779B97F4A7C15L;
    private static final long FIRST_FACTOR = 0xBF58476D1CE4E5B9L;
    private static final long SECOND_FACTOR = 0x94D049BB133111EBL;

    private final int slots;
    private final int capacity;
    private final long key;
    private final Tree blockTree;
    private final Tree mapTree;
    private final int[] mapLeaves = new int[MAP_BLOCKS];
    private int timesAsked;
    private int mostStashed;

    public CoinTree(int levels, int slots, int capacity, long key) {
        int nearestLevels = nearest(levels, 1, MOST_LEVELS);
        this.slots = nearest(slots, 1, MOST_SLOTS);
        this.capacity = nearest(capacity, 0, MOST_CAPACITY);
        this.key = key;
        this.blockTree = new Tree(nearestLevels, this.slots, this.capacity, BLOCKS);
        this.mapTree = new Tree(Math.max(1, nearestLevels - 1), this.slots, this.capacity, MAP_BLOCKS);
        for (int m = 0; m < MAP_BLOCKS; m++) {
            mapLeaves[m] = mapTree.leafModulo(m);
        }
    }

    public long read(int block, int coin, int mapCoin)
            throws IndexOutOfBoundsException, IllegalArgumentException, UnsupportedOperationException {
        return ask(block, false, 0L, coin, mapCoin);
    }

    public long write(int block, long value, int coin, int mapCoin)
            throws IndexOutOfBoundsException, IllegalArgumentException, UnsupportedOperationException {
        return ask(block, true, value, coin, mapCoin);
    }

    public int trace(int tree, int k) throws IndexOutOfBoundsException {
        Trail trail = treeNumbered(tree).trail;
        if (k < 0 || k >= trail.kept) {
            throw new IndexOutOfBoundsException("no such trace");
        }
        return trail.leafAt(k);
    }

    public long stored(int tree, int node, int slot, int word) throws IndexOutOfBoundsException {
        Tree asked = treeNumbered(tree);
        if (!asked.hasNode(node)) {
            throw new IndexOutOfBoundsException("no such node");
        }
        if (slot < 0 || slot >= slots) {
            throw new IndexOutOfBoundsException("no such slot");
        }
        if (word < 0 || word >= WORDS) {
            throw new IndexOutOfBoundsException("no such word");
        }
        long place = ((tree * SEAL_NODES + node) * SEAL_SLOTS + slot) * SEAL_WORDS + word;
        return asked.wordAt(node, slot, word)
                ^ mix(key + PLACE_STEP * place + COUNT_STEP * asked.timesWritten(node));
    }

    public int written(int tree, int node) throws IndexOutOfBoundsException {
        Tree asked = treeNumbered(tree);
        if (!asked.hasNode(node)) {
            throw new IndexOutOfBoundsException("no such node");
        }
        return asked.timesWritten(node);
    }

    public int stash(int tree, int k) throws IndexOutOfBoundsException {
        Row stash = treeNumbered(tree).stash;
        if (k < 0) {
            throw new IndexOutOfBoundsException("no such place");
        }
        return k < stash.size ? stash.markAt(k) - 1 : NONE;
    }

    public int count(int what) throws IndexOutOfBoundsException {
        switch (what) {
            case 0: return blockTree.leaves;
            case 1: return mapTree.leaves;
            case 2: return slots;
            case 3: return capacity;
            case 4: return blockTree.stash.size;
            case 5: return mapTree.stash.size;
            case 6: return mostStashed;
            case 7: return timesAsked;
            case 8: return blockTree.trail.kept;
            default: throw new IndexOutOfBoundsException("no such what");
        }
    }

    /** Both visits are planned before either is carried out: a full tree must leave both as they were. */
    private long ask(int block, boolean isNew, long newValue, int coin, int mapCoin) {
        if (block < 0 || block >= BLOCKS) {
            throw new IndexOutOfBoundsException("no such block");
        }
        if (!blockTree.hasLeaf(coin) || !mapTree.hasLeaf(mapCoin)) {
            throw new IllegalArgumentException("a coin is no leaf of its tree");
        }
        int mapBlock = block / NUMBERS_PER_VALUE;
        int shift = (block % NUMBERS_PER_VALUE) * NUMBER_BITS;

        mapTree.gather(mapBlock, mapLeaves[mapBlock]);
        long numbers = mapTree.soughtValue();
        mapTree.settle(mapCoin, withNumber(numbers, shift, coin + 1));

        blockTree.gather(block, leafTold(numbers, shift, block));
        long value = blockTree.soughtValue();
        blockTree.settle(coin, isNew ? newValue : value);

        if (!mapTree.fits() || !blockTree.fits()) {
            throw new UnsupportedOperationException("a tree would be full");
        }
        mapTree.carryOut();
        blockTree.carryOut();
        mapLeaves[mapBlock] = mapCoin;
        timesAsked++;
        mostStashed = Math.max(mostStashed, blockTree.stash.size);
        return value;
    }

    private int leafTold(long numbers, int shift, int block) {
        int number = (int) ((numbers >>> shift) & NUMBER_MASK);
        return blockTree.leafModulo(number == 0 ? block : number - 1);
    }

    private Tree treeNumbered(int tree) {
        if (tree < 0 || tree > 1) {
            throw new IndexOutOfBoundsException("no such tree");
        }
        return tree == 0 ? blockTree : mapTree;
    }

    private static long withNumber(long numbers, int shift, int number) {
        return (numbers & ~(NUMBER_MASK << shift)) | ((long) number << shift);
    }

    private static int nearest(int wanted, int least, int most) {
        return Math.max(least, Math.min(most, wanted));
    }

    private static long mix(long z) {
        long once = (z ^ (z >>> 30)) * FIRST_FACTOR;
        long twice = (once ^ (once >>> 27)) * SECOND_FACTOR;
        return twice ^ (twice >>> 31);
    }

    /**
     * One tree with its stash. A visit is gather, settle, fits, carryOut; the first three change
     * only the plan, so that a visit can be given up before carryOut.
     */
    private static final class Tree {
        final int levels;
        final int leaves;
        final int slots;
        final int capacity;
        final Row nodeSlots;
        final int[] nodeCounts;
        final Row stash;
        final Trail trail = new Trail();

        final Row plan;
        final int[] planTargets;
        int wayLeaf;
        int sought;

        Tree(int levels, int slots, int capacity, int blocks) {
            this.levels = levels;
            this.leaves = 1 << levels;
            this.slots = slots;
            this.capacity = capacity;
            this.nodeSlots = new Row(2 * leaves * slots);
            this.nodeCounts = new int[2 * leaves];
            this.stash = new Row(capacity);
            // A block is in one place only, so a plan never holds more than all blocks.
            this.plan = new Row(blocks);
            this.planTargets = new int[blocks];
        }

        boolean hasLeaf(int leaf) {
            return leaf >= 0 && leaf < leaves;
        }

        boolean hasNode(int node) {
            return node >= 1 && node < 2 * leaves;
        }

        /** The number of leaves is a power of two: the mask is the modulo, and never negative. */
        int leafModulo(int number) {
            return number & (leaves - 1);
        }

        int timesWritten(int node) {
            return hasNode(node) ? nodeCounts[node] : 0;
        }

        long wordAt(int node, int slot, int word) {
            int place = node * slots + slot;
            switch (word) {
                case MARK_WORD: return nodeSlots.markAt(place);
                case LEAF_WORD: return nodeSlots.leafAt(place);
                default: return nodeSlots.valueAt(place);
            }
        }

        void gather(int block, int leaf) {
            wayLeaf = leaf;
            plan.size = 0;
            for (int k = 0; k < stash.size; k++) {
                plan.append(stash, k);
            }
            for (int level = 0; level <= levels; level++) {
                gatherNode(nodeOnWay(leaf, level));
            }
            sought = plan.find(block + 1);
            if (sought == NONE) {
                sought = plan.size;
                plan.appendNew(block + 1);
            }
        }

        private void gatherNode(int node) {
            for (int slot = 0; slot < slots; slot++) {
                int place = node * slots + slot;
                if (nodeSlots.markAt(place) != NO_MARK) {
                    plan.append(nodeSlots, place);
                }
            }
        }

        long soughtValue() {
            return plan.valueAt(sought);
        }

        void settle(int leaf, long value) {
            plan.put(sought, plan.markAt(sought), leaf, value);
        }

        /** Gives each gathered block its slot on the way, or NONE, and tells if the rest has room. */
        boolean fits() {
            int rest = plan.size;
            for (int k = 0; k < plan.size && k < planTargets.length; k++) {
                planTargets[k] = NONE;
            }
            for (int level = levels; level >= 0; level--) {
                rest -= fillNode(nodeOnWay(wayLeaf, level), level);
            }
            return rest <= capacity;
        }

        private int fillNode(int node, int level) {
            int filled = 0;
            for (int k = 0; k < plan.size && k < planTargets.length && filled < slots; k++) {
                if (planTargets[k] == NONE && nodeOnWay(plan.leafAt(k), level) == node) {
                    planTargets[k] = node * slots + filled;
                    filled++;
                }
            }
            return filled;
        }

        void carryOut() {
            for (int level = 0; level <= levels; level++) {
                emptyNode(nodeOnWay(wayLeaf, level));
            }
            stash.size = 0;
            for (int k = 0; k < plan.size && k < planTargets.length; k++) {
                if (planTargets[k] == NONE) {
                    stash.append(plan, k);
                } else {
                    nodeSlots.copy(planTargets[k], plan, k);
                }
            }
            trail.add(wayLeaf);
        }

        private void emptyNode(int node) {
            for (int slot = 0; slot < slots; slot++) {
                nodeSlots.put(node * slots + slot, NO_MARK, 0, 0L);
            }
            if (hasNode(node)) {
                nodeCounts[node]++;
            }
        }

        private int nodeOnWay(int leaf, int level) {
            return (leaves + leaf) >> (levels - level);
        }
    }

    /**
     * Places for blocks. A block's mark is its number and 1, so that a new row is empty as it is.
     * Only rows that are used as lists have a size.
     */
    private static final class Row {
        final int[] marks;
        final int[] leaves;
        final long[] values;
        int size;

        Row(int length) {
            int places = Math.max(0, length);
            this.marks = new int[places];
            this.leaves = new int[places];
            this.values = new long[places];
        }

        private boolean has(int place) {
            return place >= 0 && place < marks.length;
        }

        int markAt(int place) {
            return has(place) ? marks[place] : NO_MARK;
        }

        int leafAt(int place) {
            return has(place) ? leaves[place] : 0;
        }

        long valueAt(int place) {
            return has(place) ? values[place] : 0L;
        }

        void put(int place, int mark, int leaf, long value) {
            if (has(place)) {
                marks[place] = mark;
                leaves[place] = leaf;
                values[place] = value;
            }
        }

        void copy(int place, Row from, int fromPlace) {
            put(place, from.markAt(fromPlace), from.leafAt(fromPlace), from.valueAt(fromPlace));
        }

        void append(Row from, int fromPlace) {
            if (has(size)) {
                copy(size, from, fromPlace);
                size++;
            }
        }

        void appendNew(int mark) {
            if (has(size)) {
                put(size, mark, 0, 0L);
                size++;
            }
        }

        int find(int mark) {
            for (int place = 0; place < size && place < marks.length; place++) {
                if (marks[place] == mark) {
                    return place;
                }
            }
            return NONE;
        }
    }

    /** The leaves of the latest ways, in a ring: the oldest makes room for the newest. */
    private static final class Trail {
        final int[] leaves = new int[TRACES];
        int next;
        int kept;

        void add(int leaf) {
            if (next < 0 || next >= TRACES) {
                next = 0;
            }
            leaves[next] = leaf;
            next++;
            kept = Math.min(kept + 1, TRACES);
        }

        int leafAt(int k) {
            int oldest = kept < TRACES ? 0 : next;
            int place = (oldest + k) % TRACES;
            return place >= 0 ? leaves[place] : 0;
        }
    }
}

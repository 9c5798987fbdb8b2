import java.util.Random;

/** Promises 1 to 8 together: many runs of calls against SlowModel, with a fixed seed. */
public final class ModelTest {
    private static final Random RANDOM = new Random(20261115L);
    private static final int[] ODD = {Integer.MIN_VALUE, -1, 64, Integer.MAX_VALUE};
    private static final long[] VALUES = {0L, 1L, -1L, Long.MIN_VALUE, Long.MAX_VALUE};

    public static void main(String[] args) {
        for (int levels = 0; levels <= 6; levels++) {
            for (int slots = 0; slots <= 5; slots++) {
                for (int capacity : new int[] {-1, 0, 1, 3, 8, 20, 40, 41}) {
                    run(levels, slots, capacity, RANDOM.nextLong(), 120, 64);
                }
            }
        }
        // Few blocks, and coins on one side: the stash and the order in it matter most.
        for (int i = 0; i < 60; i++) {
            run(1 + i % 5, 1 + i % 3, 1 + i % 9, RANDOM.nextLong(), 512, 1 + RANDOM.nextInt(20));
        }
        // The ring of traces comes round, beyond the calls that the document speaks of.
        run(2, 4, 40, 5L, 1300, 16);
        Check.end("ModelTest");
    }

    private static void run(int levels, int slots, int capacity, long key, int calls, int blocks) {
        CoinTree x = new CoinTree(levels, slots, capacity, key);
        SlowModel model = new SlowModel(levels, slots, capacity, key);
        String name = "new CoinTree(" + levels + ", " + slots + ", " + capacity + ", " + key + ")";
        Check.same(name, Seen.all(x), model.all());
        int skew = 1 + RANDOM.nextInt(4);
        for (int i = 0; i < calls; i++) {
            int block = RANDOM.nextInt(40) == 0 ? ODD[RANDOM.nextInt(4)] : RANDOM.nextInt(blocks);
            int coin = coin(x.count(0), skew);
            int mapCoin = coin(x.count(1), skew);
            Long value = RANDOM.nextInt(2) == 0 ? null : value();
            SlowModel.Answer due = model.ask(block, value, coin, mapCoin);
            SlowModel.Answer got = ask(x, block, value, coin, mapCoin);
            String call = name + ", call " + i + ": ask(" + block + ", " + value + ", " + coin + ", " + mapCoin + ")";
            Check.same(call + " (kind of answer)", got.kind, due.kind);
            Check.same(call, got.value, due.value);
            if (i % 8 == 0 || i == calls - 1 || due.kind == 'u') {
                Check.same("what stands behind " + call, Seen.all(x), model.all());
            }
        }
    }

    private static int coin(int leaves, int skew) {
        if (RANDOM.nextInt(40) == 0) {
            return RANDOM.nextBoolean() ? leaves : ODD[RANDOM.nextInt(4)];
        }
        return RANDOM.nextInt(Math.max(1, leaves / skew));
    }

    private static long value() {
        return RANDOM.nextInt(6) == 0 ? VALUES[RANDOM.nextInt(VALUES.length)] : RANDOM.nextLong();
    }

    private static SlowModel.Answer ask(CoinTree x, int block, Long value, int coin, int mapCoin) {
        try {
            long answer = value == null ? x.read(block, coin, mapCoin) : x.write(block, value, coin, mapCoin);
            return new SlowModel.Answer('v', answer);
        } catch (RuntimeException e) {
            return new SlowModel.Answer(kind(e), 0);
        }
    }

    private static char kind(RuntimeException e) {
        if (e.getClass() == IndexOutOfBoundsException.class) {
            return 'i';
        }
        if (e.getClass() == IllegalArgumentException.class) {
            return 'a';
        }
        return e.getClass() == UnsupportedOperationException.class ? 'u' : '?';
    }
}

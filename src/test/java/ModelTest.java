import java.util.ArrayList;
import java.util.List;
import java.util.Random;

/**
 * All promises: runs of 512 calls, the same on SlabHouse and on the plain model; each answer and
 * each exception is compared, and now and then all that can be asked. The seeds are fixed.
 */
public final class ModelTest {
    private static final int RUNS = 400;
    private static final int CALLS = 512;
    private static final int[] ALIGNS = {8, 16, 32, 64};
    private static final int[] ODD = {-1, 0, 1, 4, 8, 9, 1023, 262143, 262144, Integer.MIN_VALUE, Integer.MAX_VALUE};
    private static final Due DUE = new Due();

    private final Random random;
    private final int run;
    /** How the run leans: 0 few large objects, 1 many small ones, 2 memory that runs short. */
    private final int lean;
    private final SlabHouse house = new SlabHouse();
    private final PlainHouse plain = new PlainHouse();
    private final List<Integer> live = new ArrayList<>();
    /** While it is false, more objects are freed than allocated. */
    private boolean growing = true;

    private ModelTest(int run) {
        this.run = run;
        random = new Random(run);
        lean = run % 3;
    }

    public static void main(String[] args) {
        for (int run = 0; run < RUNS; run++) {
            new ModelTest(run).go();
        }
        DUE.end();
    }

    private void go() {
        for (int i = 0; i < 2 + random.nextInt(4); i++) {
            cache();
        }
        for (int i = 0; i < CALLS; i++) {
            if (random.nextInt(60) == 0) {
                growing = !growing;
            }
            step(random.nextInt(100));
            if (i % 64 == 63) {
                compareAll();
            }
        }
    }

    private void step(int dice) {
        if (dice < 30) {
            allocate(growing ? 1 + (lean == 2 ? 3 : 0) : 0);
        } else if (dice < 60) {
            free(growing ? 1 : 3);
        } else if (dice < 63) {
            cache();
        } else if (dice < 65) {
            int c = some(8);
            both("drop(" + c + ")", () -> house.drop(c), () -> plain.drop(c));
        } else if (dice < 69) {
            int a = address();
            int m = random.nextInt(3);
            both("mark(" + a + ", " + m + ")", () -> house.mark(a, m), () -> plain.mark(a, m));
        } else if (dice < 73) {
            int p = some(4);
            both("flush(" + p + ")", () -> house.flush(p), () -> plain.flush(p));
        } else if (dice < 75) {
            int c = some(8);
            both("empty(" + c + ")", () -> house.empty(c), () -> plain.empty(c));
        } else if (dice < 77) {
            both("reap()", house::reap, plain::reap);
        } else {
            ask(dice);
        }
    }

    private void ask(int dice) {
        int a = address();
        int c = some(8);
        int w = some(8);
        int k = some(4);
        if (dice < 80) {
            both("cacheOf(" + a + ")", () -> house.cacheOf(a), () -> plain.cacheOf(a));
        } else if (dice < 84) {
            both("objectOf(" + a + ")", () -> house.objectOf(a), () -> plain.objectOf(a));
        } else if (dice < 87) {
            both("about(" + c + ", " + w + ")", () -> house.about(c, w), () -> plain.about(c, w));
        } else if (dice < 90) {
            int l = some(3);
            both("list(" + c + ", " + l + ", " + k + ")", () -> house.list(c, l, k), () -> plain.list(c, l, k));
        } else if (dice < 93) {
            both("slab(" + a + ", " + k + ")", () -> house.slab(a, k), () -> plain.slab(a, k));
        } else if (dice < 96) {
            both("magazine(" + c + ", " + k + ", " + w + ")",
                    () -> house.magazine(c, k, w), () -> plain.magazine(c, k, w));
        } else if (dice < 98) {
            int o = some(7);
            both("block(" + o + ", " + k + ")", () -> house.block(o, k), () -> plain.block(o, k));
        } else {
            both("pages(" + k + ")", () -> house.pages(k), () -> plain.pages(k));
        }
    }

    private void cache() {
        int align = some(20) < 19 ? ALIGNS[random.nextInt(4)] : some(70);
        int order = lean == 2 ? random.nextInt(4) : some(4);
        int size = 8 * (1 + random.nextInt(lean == 1 ? 40 : 512));
        if (lean == 2) {
            size = Math.max(8, (1024 << order) / (1 + random.nextInt(3)) / 8 * 8 - 8 * random.nextInt(4));
        }
        int told = random.nextInt(30) == 0 ? size + 4 : size;
        both("cache(" + told + ", " + align + ", " + order + ", 1)",
                () -> house.cache(told, align, order, 1), () -> plain.cache(told, align, order, 1));
    }

    private void allocate(int more) {
        int c = some(random.nextInt(10) == 0 ? 8 : 3);
        int p = random.nextInt(3) == 0 ? some(4) : 0;
        for (int i = 0; i <= more; i++) {
            int got = both("allocate(" + c + ", " + p + ")",
                    () -> house.allocate(c, p), () -> plain.allocate(c, p));
            if (got >= 0) {
                live.add(got);
            }
        }
    }

    private void free(int times) {
        for (int i = 0; i < times; i++) {
            int a = address();
            int p = random.nextInt(3) == 0 ? some(4) : 0;
            int got = both("free(" + a + ", " + p + ")", () -> house.free(a, p), () -> plain.free(a, p));
            if (got >= 0) {
                live.remove((Integer) a);
            }
        }
    }

    /** Mostly 0 .. bound - 1, seldom something else. */
    private int some(int bound) {
        return random.nextInt(25) == 0 ? ODD[random.nextInt(ODD.length)] : random.nextInt(bound);
    }

    private int address() {
        int dice = random.nextInt(20);
        if (dice == 0) {
            return ODD[random.nextInt(ODD.length)];
        }
        if (dice == 1 || live.isEmpty()) {
            return random.nextInt(262144);
        }
        int begin = live.get(random.nextInt(live.size()));
        return dice == 2 ? begin + random.nextInt(4500) : begin;
    }

    /** The answer on which both agree; -2 where they throw or differ. */
    private int both(String call, Due.Call real, Due.Call model) {
        String got = outcome(real);
        String want = outcome(model);
        DUE.holds("run " + run + ": " + call + " answered " + got + ", due is " + want, got.equals(want));
        return got.equals(want) && !got.startsWith("throws") ? Integer.parseInt(got) : -2;
    }

    private static String outcome(Due.Call call) {
        try {
            return String.valueOf(call.answer());
        } catch (RuntimeException thrown) {
            return "throws." + thrown.getClass().getSimpleName();
        }
    }

    private void compareAll() {
        for (int number = 0; number < 8; number++) {
            compareCache(number);
        }
        for (int order = 0; order <= 6; order++) {
            int o = order;
            for (int index = 0; index < 40; index++) {
                int k = index;
                both("block(" + o + ", " + k + ")", () -> house.block(o, k), () -> plain.block(o, k));
            }
        }
        both("pages(0)", () -> house.pages(0), () -> plain.pages(0));
        both("pages(1)", () -> house.pages(1), () -> plain.pages(1));
        for (int page = 0; page < 256; page += 3) {
            int a = 1024 * page + random.nextInt(1024);
            both("cacheOf(" + a + ")", () -> house.cacheOf(a), () -> plain.cacheOf(a));
            for (int what = 0; what < 4; what++) {
                int w = what;
                both("slab(" + a + ", " + w + ")", () -> house.slab(a, w), () -> plain.slab(a, w));
            }
        }
    }

    private void compareCache(int c) {
        for (int what = 0; what < 8; what++) {
            int w = what;
            both("about(" + c + ", " + w + ")", () -> house.about(c, w), () -> plain.about(c, w));
        }
        for (int index = 0; index < 60; index++) {
            int w = index % 3;
            int k = index / 3;
            both("list(" + c + ", " + w + ", " + k + ")", () -> house.list(c, w, k), () -> plain.list(c, w, k));
        }
        for (int index = 0; index < 12; index++) {
            int p = index / 3;
            int w = index % 3;
            both("magazine(" + c + ", " + p + ", " + w + ")",
                    () -> house.magazine(c, p, w), () -> plain.magazine(c, p, w));
        }
    }
}

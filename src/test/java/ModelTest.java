import java.util.ArrayList;
import java.util.List;
import java.util.Random;

/**
 * All promises: runs of calls, the same on SlabHouse and on the plain model; each answer and each
 * exception is compared, and now and then all that can be asked. The seeds are fixed.
 */
public final class ModelTest {
    private static final int RUNS = 400;
    /** Fewer than an object is promised for, so that the rest can be asked of objects told the same. */
    private static final int CALLS = 440;
    private static final int CALLS_BETWEEN = 60;
    private static final int[] ALIGNS = {8, 16, 32, 64};
    private static final int[] ODD = {-1, 0, 1, 4, 8, 9, 1023, 262143, 262144, Integer.MIN_VALUE, Integer.MAX_VALUE};
    private static final Due DUE = new Due();

    private final Random random;
    private final int run;
    /** How the run leans: 0 few large objects, 1 many small ones, 2 memory that runs short. */
    private final int lean;
    private final SlabHouse house = new SlabHouse();
    /** All calls on house until now. */
    private final List<Story.Step> past = new ArrayList<>();
    private final PlainHouse plain = new PlainHouse();
    private final List<Integer> live = new ArrayList<>();
    /** An object that was told all of the past, and how many calls it had. */
    private SlabHouse asked;
    private int askedCalls;
    /** While it is false, more objects are freed than allocated. */
    private boolean growing = true;

    private ModelTest(int run) {
        this.run = run;
        random = new Random(run);
        lean = run % 3;
    }

    public static void main(String[] args) {
        for (int run = 0; run < RUNS; run++) {
            new ModelTest(run).go();
        }
        DUE.end();
    }

    private void go() {
        for (int i = 0; i < 2 + random.nextInt(4); i++) {
            cache();
        }
        int compared = 0;
        while (past.size() < CALLS) {
            if (random.nextInt(60) == 0) {
                growing = !growing;
            }
            step(random.nextInt(100));
            if (past.size() - compared >= CALLS_BETWEEN) {
                compared = past.size();
                compareAll();
            }
        }
    }

    private void step(int dice) {
        if (dice < 30) {
            allocate(growing ? 1 + (lean == 2 ? 3 : 0) : 0);
        } else if (dice < 60) {
            free(growing ? 1 : 3);
        } else if (dice < 63) {
            cache();
        } else if (dice < 65) {
            int c = some(8);
            both("drop(" + c + ")", x -> x.drop(c), () -> plain.drop(c));
        } else if (dice < 69) {
            int a = address();
            int m = random.nextInt(3);
            both("mark(" + a + ", " + m + ")", x -> x.mark(a, m), () -> plain.mark(a, m));
        } else if (dice < 73) {
            int p = some(4);
            both("flush(" + p + ")", x -> x.flush(p), () -> plain.flush(p));
        } else if (dice < 75) {
            int c = some(8);
            both("empty(" + c + ")", x -> x.empty(c), () -> plain.empty(c));
        } else if (dice < 77) {
            both("reap()", x -> x.reap(), plain::reap);
        } else {
            question(dice);
        }
    }

    private void question(int dice) {
        int a = address();
        int c = some(8);
        int w = some(8);
        int k = some(4);
        if (dice < 80) {
            both("cacheOf(" + a + ")", x -> x.cacheOf(a), () -> plain.cacheOf(a));
        } else if (dice < 84) {
            both("objectOf(" + a + ")", x -> x.objectOf(a), () -> plain.objectOf(a));
        } else if (dice < 87) {
            both("about(" + c + ", " + w + ")", x -> x.about(c, w), () -> plain.about(c, w));
        } else if (dice < 90) {
            int l = some(3);
            both("list(" + c + ", " + l + ", " + k + ")", x -> x.list(c, l, k), () -> plain.list(c, l, k));
        } else if (dice < 93) {
            both("slab(" + a + ", " + k + ")", x -> x.slab(a, k), () -> plain.slab(a, k));
        } else if (dice < 96) {
            both("magazine(" + c + ", " + k + ", " + w + ")",
                    x -> x.magazine(c, k, w), () -> plain.magazine(c, k, w));
        } else if (dice < 98) {
            int o = some(7);
            both("block(" + o + ", " + k + ")", x -> x.block(o, k), () -> plain.block(o, k));
        } else {
            both("pages(" + k + ")", x -> x.pages(k), () -> plain.pages(k));
        }
    }

    private void cache() {
        int align = some(20) < 19 ? ALIGNS[random.nextInt(4)] : some(70);
        int order = lean == 2 ? random.nextInt(4) : some(4);
        int size = 8 * (1 + random.nextInt(lean == 1 ? 40 : 512));
        if (lean == 2) {
            size = Math.max(8, (1024 << order) / (1 + random.nextInt(3)) / 8 * 8 - 8 * random.nextInt(4));
        }
        int told = random.nextInt(30) == 0 ? size + 4 : size;
        both("cache(" + told + ", " + align + ", " + order + ", 1)",
                x -> x.cache(told, align, order, 1), () -> plain.cache(told, align, order, 1));
    }

    private void allocate(int more) {
        int c = some(random.nextInt(10) == 0 ? 8 : 3);
        int p = random.nextInt(3) == 0 ? some(4) : 0;
        for (int i = 0; i <= more; i++) {
            int got = both("allocate(" + c + ", " + p + ")",
                    x -> x.allocate(c, p), () -> plain.allocate(c, p));
            if (got >= 0) {
                live.add(got);
            }
        }
    }

    private void free(int times) {
        for (int i = 0; i < times; i++) {
            int a = address();
            int p = random.nextInt(3) == 0 ? some(4) : 0;
            int got = both("free(" + a + ", " + p + ")", x -> x.free(a, p), () -> plain.free(a, p));
            if (got >= 0) {
                live.remove((Integer) a);
            }
        }
    }

    /** Mostly 0 .. bound - 1, seldom something else. */
    private int some(int bound) {
        return random.nextInt(25) == 0 ? ODD[random.nextInt(ODD.length)] : random.nextInt(bound);
    }

    private int address() {
        int dice = random.nextInt(20);
        if (dice == 0) {
            return ODD[random.nextInt(ODD.length)];
        }
        if (dice == 1 || live.isEmpty()) {
            return random.nextInt(262144);
        }
        int begin = live.get(random.nextInt(live.size()));
        return dice == 2 ? begin + random.nextInt(4500) : begin;
    }

    /** The answer on which both agree; -2 where they throw or differ. */
    private int both(String call, Story.Step real, Due.Call model) {
        past.add(real);
        return agreed(call, Due.outcome(() -> real.on(house)), Due.outcome(model));
    }

    private int agreed(String call, String got, String want) {
        DUE.holds("run " + run + ": " + call + " answered " + got + ", due is " + want, got.equals(want));
        return got.equals(want) && !got.startsWith("throws") ? Integer.parseInt(got) : -2;
    }

    /** Asks of an object that was told the same, for the run goes on with few enough calls. */
    private void ask(String call, Story.Step real, Due.Call model) {
        if (asked == null || askedCalls >= Story.CALLS) {
            asked = retold();
            askedCalls = past.size();
        }
        askedCalls++;
        agreed(call, Due.outcome(() -> real.on(asked)), Due.outcome(model));
    }

    private SlabHouse retold() {
        SlabHouse x = new SlabHouse();
        for (Story.Step step : past) {
            Due.outcome(() -> step.on(x));
        }
        return x;
    }

    private void compareAll() {
        asked = null;
        for (int number = 0; number < 8; number++) {
            compareCache(number);
        }
        for (int order = 0; order <= 6; order++) {
            int o = order;
            for (int index = 0; index < 40; index++) {
                int k = index;
                ask("block(" + o + ", " + k + ")", x -> x.block(o, k), () -> plain.block(o, k));
            }
        }
        ask("pages(0)", x -> x.pages(0), () -> plain.pages(0));
        ask("pages(1)", x -> x.pages(1), () -> plain.pages(1));
        for (int page = 0; page < 256; page += 3) {
            int a = 1024 * page + random.nextInt(1024);
            ask("cacheOf(" + a + ")", x -> x.cacheOf(a), () -> plain.cacheOf(a));
            for (int what = 0; what < 4; what++) {
                int w = what;
                ask("slab(" + a + ", " + w + ")", x -> x.slab(a, w), () -> plain.slab(a, w));
            }
        }
    }

    private void compareCache(int c) {
        for (int what = 0; what < 8; what++) {
            int w = what;
            ask("about(" + c + ", " + w + ")", x -> x.about(c, w), () -> plain.about(c, w));
        }
        for (int index = 0; index < 60; index++) {
            int w = index % 3;
            int k = index / 3;
            ask("list(" + c + ", " + w + ", " + k + ")", x -> x.list(c, w, k), () -> plain.list(c, w, k));
        }
        for (int index = 0; index < 12; index++) {
            int p = index / 3;
            int w = index % 3;
            ask("magazine(" + c + ", " + p + ", " + w + ")",
                    x -> x.magazine(c, p, w), () -> plain.magazine(c, p, w));
        }
    }
}

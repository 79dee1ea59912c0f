import java.util.NoSuchElementException;

/** Promises 7 (flush), 8 (empty) and 15 (magazine), with ALLOCATING and FREEING. */
public final class MagazinesTest {
    private static final Due DUE = new Due();

    public static void main(String[] args) {
        freeing();
        allocating();
        changingPlaces();
        flush();
        flushOfAllCaches();
        empty();
        magazineRefuses();
        DUE.end();
    }

    /** Objects 0, 64, .. of one slab of 16 and more are live. */
    private static SlabHouse withLive(int objects) {
        SlabHouse x = new SlabHouse();
        x.cache(64, 8, 3, 0);
        for (int i = 0; i < objects; i++) {
            x.allocate(0, 0);
        }
        return x;
    }

    private static void freeAll(SlabHouse x, int processor, int from, int to) {
        for (int i = from; i < to; i++) {
            x.free(64 * i, processor);
        }
    }

    private static void counts(String when, SlabHouse x, int processor, int loaded, int previous, int depot) {
        DUE.is(when + ": LOADED", loaded, x.magazine(0, processor, 0));
        DUE.is(when + ": PREVIOUS", previous, x.magazine(0, processor, 1));
        DUE.is(when + ": DEPOT", depot, x.magazine(0, processor, 2));
    }

    private static void freeing() {
        SlabHouse x = withLive(30);
        counts("at first", x, 0, 0, 0, 0);
        freeAll(x, 0, 0, 4);
        counts("four", x, 0, 4, 0, 0);
        freeAll(x, 0, 4, 5);
        counts("five", x, 0, 1, 4, 0);
        freeAll(x, 0, 5, 8);
        counts("eight", x, 0, 4, 4, 0);
        freeAll(x, 0, 8, 9);
        counts("nine", x, 0, 1, 4, 1);
        freeAll(x, 0, 9, 17);
        counts("seventeen", x, 0, 1, 4, 3);
        freeAll(x, 0, 17, 20);
        counts("twenty", x, 0, 4, 4, 3);
        DUE.is("the slab has none of them", 30, x.slab(0, 2));
        freeAll(x, 0, 20, 22);
        counts("the depot is full", x, 0, 4, 4, 3);
        DUE.is("two came back to their slab", 28, x.slab(0, 2));
        DUE.is("the last of them is first", 21, x.slab(0, 3));
        freeAll(x, 2, 22, 30);
        counts("another processor, the same depot", x, 2, 4, 4, 3);
        counts("a third processor", x, 1, 0, 0, 3);
        DUE.is("about(0, 6)", 28, x.about(0, 6));
        DUE.is("about(0, 5)", 0, x.about(0, 5));
    }

    private static void allocating() {
        SlabHouse x = withLive(20);
        freeAll(x, 0, 0, 20);
        for (int i = 19; i >= 12; i--) {
            DUE.is("of LOADED, then of PREVIOUS", 64 * i, x.allocate(0, 0));
        }
        counts("both are empty", x, 0, 0, 0, 3);
        DUE.is("the magazine that came to the depot last", 64 * 11, x.allocate(0, 1));
        counts("processor 1 has it", x, 1, 3, 0, 2);
        DUE.is("the one before", 64 * 7, x.allocate(0, 0));
        counts("processor 0 has that", x, 0, 3, 0, 1);
        for (int i = 6; i >= 0; i--) {
            DUE.is("the rest in order", 64 * i, x.allocate(0, 0));
        }
        counts("nothing is left", x, 0, 0, 0, 0);
        DUE.is("now of the slab", 64 * 20, x.allocate(0, 0));
        DUE.is("magazines of processor 1 stay", 3, x.about(0, 6));
    }

    private static void changingPlaces() {
        SlabHouse x = withLive(12);
        freeAll(x, 0, 0, 6);
        counts("two loaded", x, 0, 2, 4, 0);
        x.allocate(0, 0);
        x.allocate(0, 0);
        counts("they change places only when one is asked of an empty one", x, 0, 0, 4, 0);
        DUE.is("allocate", 64 * 3, x.allocate(0, 0));
        counts("changed", x, 0, 3, 0, 0);
        freeAll(x, 0, 6, 7);
        counts("full", x, 0, 4, 0, 0);
        freeAll(x, 0, 7, 10);
        counts("changed again", x, 0, 3, 4, 0);
        DUE.is("what came last", 64 * 9, x.allocate(0, 0));
    }

    private static void flush() {
        SlabHouse x = withLive(16);
        freeAll(x, 0, 0, 6);
        freeAll(x, 1, 6, 8);
        DUE.is("flush(0)", 6, x.flush(0));
        counts("flushed", x, 0, 0, 0, 0);
        counts("the other processor", x, 1, 2, 0, 0);
        DUE.is("the slab", 10, x.slab(0, 2));
        int[] order = {0, 1, 2, 3, 4, 5};
        for (int i = 0; i < order.length; i++) {
            DUE.is("LOADED came back first, what came last first", 64 * order[i], x.allocate(0, 3));
        }
        DUE.is("flush(0) again", 0, x.flush(0));
        DUE.is("flush(1)", 2, x.flush(1));
        freeAll(x, 2, 8, 16);
        x.free(0, 2);
        DUE.is("flush(2) leaves the depot alone", 5, x.flush(2));
        counts("the depot", x, 2, 0, 0, 1);
        DUE.throwing("flush(4)", IllegalArgumentException.class, () -> x.flush(4));
        DUE.throwing("flush(-1)", IllegalArgumentException.class, () -> x.flush(-1));
        DUE.throwing("flush(least)", IllegalArgumentException.class, () -> x.flush(Integer.MIN_VALUE));
    }

    private static void flushOfAllCaches() {
        SlabHouse x = new SlabHouse();
        for (int number = 0; number < 8; number++) {
            x.cache(256, 8, 0, number);
            x.free(x.allocate(number, 3), 3);
        }
        x.drop(5);
        DUE.is("flush(3) of seven caches", 7, x.flush(3));
        DUE.is("reap()", 7, x.reap());
    }

    private static void empty() {
        SlabHouse x = withLive(24);
        freeAll(x, 0, 0, 17);
        counts("three in the depot", x, 0, 1, 4, 3);
        DUE.is("empty(0)", 12, x.empty(0));
        counts("none in the depot", x, 0, 1, 4, 0);
        DUE.is("in magazines", 5, x.about(0, 6));
        for (int i = 0; i < 12; i++) {
            DUE.is("the last one came back first, what came last first", 64 * i, x.allocate(0, 1));
        }
        DUE.is("then one that was never taken", 64 * 24, x.allocate(0, 1));
        DUE.is("empty(0) again", 0, x.empty(0));
        freeAll(x, 0, 17, 21);
        counts("one in the depot", x, 0, 1, 4, 1);
        DUE.is("empty(0) of one", 4, x.empty(0));
        freeAll(x, 0, 0, 8);
        counts("the depot fills anew", x, 0, 1, 4, 2);
        DUE.throwing("empty(1)", NoSuchElementException.class, () -> x.empty(1));
        DUE.throwing("empty(-1)", NoSuchElementException.class, () -> x.empty(-1));
        DUE.throwing("empty(8)", NoSuchElementException.class, () -> x.empty(8));
    }

    private static void magazineRefuses() {
        SlabHouse x = withLive(1);
        DUE.throwing("magazine(0, 4, 0)", IllegalArgumentException.class, () -> x.magazine(0, 4, 0));
        DUE.throwing("magazine(0, -1, 2)", IllegalArgumentException.class, () -> x.magazine(0, -1, 2));
        DUE.throwing("magazine(0, 0, 3)", IllegalArgumentException.class, () -> x.magazine(0, 0, 3));
        DUE.throwing("magazine(0, 0, -1)", IllegalArgumentException.class, () -> x.magazine(0, 0, -1));
        DUE.throwing("magazine(1, 0, 0)", NoSuchElementException.class, () -> x.magazine(1, 0, 0));
        DUE.throwing("magazine(1, 4, 3)", NoSuchElementException.class, () -> x.magazine(1, 4, 3));
        DUE.throwing("magazine(-1, 0, 0)", NoSuchElementException.class, () -> x.magazine(-1, 0, 0));
        DUE.throwing("magazine(8, 0, 0)", NoSuchElementException.class, () -> x.magazine(8, 0, 0));
    }
}

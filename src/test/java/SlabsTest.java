import java.util.NoSuchElementException;

/** Promises 13 (list) and 14 (slab), with the way of SLABS through the lists. */
public final class SlabsTest {
    private static final Due DUE = new Due();

    public static void main(String[] args) {
        list();
        onlyAChangeOfKindMoves();
        slabsOfOneObject();
        listRefuses();
        slab();
        slabRefuses();
        DUE.end();
    }

    /** Two objects a slab, three slabs. */
    private static SlabHouse threeFullSlabs() {
        SlabHouse x = new SlabHouse();
        x.cache(512, 8, 0, 0);
        for (int i = 0; i < 6; i++) {
            x.allocate(0, 0);
        }
        return x;
    }

    private static void giveToSlab(SlabHouse x, int address) {
        x.free(address, 1);
        x.flush(1);
    }

    private static void lists(String when, SlabHouse x, int[] full, int[] partial, int[] empty) {
        int[][] all = {full, partial, empty};
        for (int which = 0; which < 3; which++) {
            for (int k = 0; k <= all[which].length; k++) {
                int want = k < all[which].length ? all[which][k] : -1;
                DUE.is(when + ": list(0, " + which + ", " + k + ")", want, x.list(0, which, k));
            }
        }
    }

    private static int[] of(int... pages) {
        int[] bytes = new int[pages.length];
        for (int i = 0; i < pages.length; i++) {
            bytes[i] = 1024 * pages[i];
        }
        return bytes;
    }

    private static void list() {
        SlabHouse x = threeFullSlabs();
        lists("all full", x, of(2, 1, 0), of(), of());
        giveToSlab(x, 512);
        lists("one partial", x, of(2, 1), of(0), of());
        giveToSlab(x, 2048);
        lists("two partial", x, of(1), of(2, 0), of());
        giveToSlab(x, 1024);
        lists("three partial", x, of(), of(1, 2, 0), of());
        giveToSlab(x, 2560);
        lists("one empty", x, of(), of(1, 0), of(2));
        giveToSlab(x, 0);
        lists("two empty", x, of(), of(1), of(0, 2));
        DUE.is("the partial one first", 1024, x.allocate(0, 0));
        lists("full again", x, of(1), of(), of(0, 2));
        DUE.is("then the first empty one, what came back last", 0, x.allocate(0, 0));
        lists("partial again", x, of(1), of(0), of(2));
        DUE.is("the partial one again", 512, x.allocate(0, 0));
        lists("two full", x, of(0, 1), of(), of(2));
        DUE.is("the last empty one, what came back last", 2560, x.allocate(0, 0));
        DUE.is("and its other", 2048, x.allocate(0, 0));
        DUE.is("then a new one", 3072, x.allocate(0, 0));
        lists("a new one", x, of(2, 0, 1), of(3), of());
    }

    private static void onlyAChangeOfKindMoves() {
        SlabHouse x = new SlabHouse();
        x.cache(256, 8, 0, 0);
        for (int i = 0; i < 12; i++) {
            x.allocate(0, 0);
        }
        giveToSlab(x, 0);
        giveToSlab(x, 1024);
        lists("two partial", x, of(2), of(1, 0), of());
        giveToSlab(x, 256);
        lists("a partial one that stays partial keeps its place", x, of(2), of(1, 0), of());
        DUE.is("so the other one is first still", 1024, x.allocate(0, 0));
        lists("it is full", x, of(1, 2), of(0), of());
    }

    private static void slabsOfOneObject() {
        SlabHouse x = new SlabHouse();
        x.cache(1024, 8, 0, 0);
        x.allocate(0, 0);
        x.allocate(0, 0);
        lists("never partial", x, of(1, 0), of(), of());
        giveToSlab(x, 0);
        giveToSlab(x, 1024);
        lists("both empty", x, of(), of(), of(1, 0));
        DUE.is("the first empty one", 1024, x.allocate(0, 0));
        lists("one of each", x, of(1), of(), of(0));
    }

    private static void listRefuses() {
        SlabHouse x = threeFullSlabs();
        DUE.is("list(0, 0, -1)", -1, x.list(0, 0, -1));
        DUE.is("list(0, 0, least)", -1, x.list(0, 0, Integer.MIN_VALUE));
        DUE.is("list(0, 0, greatest)", -1, x.list(0, 0, Integer.MAX_VALUE));
        DUE.throwing("list(0, 3, 0)", IllegalArgumentException.class, () -> x.list(0, 3, 0));
        DUE.throwing("list(0, -1, 0)", IllegalArgumentException.class, () -> x.list(0, -1, 0));
        DUE.throwing("list(0, 3, -1)", IllegalArgumentException.class, () -> x.list(0, 3, -1));
        DUE.throwing("list(1, 0, 0)", NoSuchElementException.class, () -> x.list(1, 0, 0));
        DUE.throwing("list(1, 3, 0)", NoSuchElementException.class, () -> x.list(1, 3, 0));
        DUE.throwing("list(-1, 0, 0)", NoSuchElementException.class, () -> x.list(-1, 0, 0));
        DUE.throwing("list(8, 0, 0)", NoSuchElementException.class, () -> x.list(8, 0, 0));
    }

    private static void slab() {
        SlabHouse x = new SlabHouse();
        x.cache(600, 8, 1, 0);
        for (int i = 0; i < 5; i++) {
            x.allocate(0, 0);
        }
        DUE.is("slab(0, 0)", 0, x.slab(0, 0));
        DUE.is("slab(2047, 0)", 0, x.slab(2047, 0));
        DUE.is("slab(2048, 0)", 2048, x.slab(2048, 0));
        DUE.is("slab(4095, 0)", 2048, x.slab(4095, 0));
        DUE.is("slab(2047, 1)", 0, x.slab(2047, 1));
        DUE.is("slab(2048, 1)", 1, x.slab(2048, 1));
        DUE.is("slab(1024, 2)", 3, x.slab(1024, 2));
        DUE.is("slab(1024, 3) of a full one", -1, x.slab(1024, 3));
        DUE.is("slab(3000, 2)", 2, x.slab(3000, 2));
        DUE.is("slab(3000, 3)", 2, x.slab(3000, 3));
        x.free(600, 0);
        DUE.is("in a magazine it is not FREE", 3, x.slab(0, 2));
        DUE.is("in a magazine it is not FREE", -1, x.slab(0, 3));
        x.flush(0);
        DUE.is("back in its slab", 2, x.slab(0, 2));
        DUE.is("back in its slab", 1, x.slab(0, 3));
        giveToSlab(x, 2056);
        giveToSlab(x, 2656);
        DUE.is("an empty slab", 0, x.slab(2048, 2));
        DUE.is("what came back last is first", 1, x.slab(2048, 3));
        x.reap();
        DUE.throwing("a slab given back", NoSuchElementException.class, () -> x.slab(2048, 0));
    }

    private static void slabRefuses() {
        SlabHouse x = threeFullSlabs();
        DUE.throwing("slab(0, 4)", IllegalArgumentException.class, () -> x.slab(0, 4));
        DUE.throwing("slab(0, -1)", IllegalArgumentException.class, () -> x.slab(0, -1));
        DUE.throwing("slab(3072, 0)", NoSuchElementException.class, () -> x.slab(3072, 0));
        DUE.throwing("slab(3072, 4)", NoSuchElementException.class, () -> x.slab(3072, 4));
        DUE.throwing("slab(-1, 0)", NoSuchElementException.class, () -> x.slab(-1, 0));
        DUE.throwing("slab(262144, 0)", NoSuchElementException.class, () -> x.slab(262144, 0));
        DUE.throwing("slab(262143, 0)", NoSuchElementException.class, () -> x.slab(262143, 0));
        DUE.throwing("slab(least, 0)", NoSuchElementException.class, () -> x.slab(Integer.MIN_VALUE, 0));
    }
}

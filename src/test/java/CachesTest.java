import java.util.NoSuchElementException;

/** Promises 2 (cache), 3 (drop) and 12 (about). */
public final class CachesTest {
    private static final Due DUE = new Due();

    public static void main(String[] args) {
        cache();
        cacheRefuses();
        eightCaches();
        drop();
        dropRefuses();
        dropWithMagazines();
        aboutShape();
        aboutCounts();
        aboutRefuses();
        DUE.end();
    }

    private static void cache() {
        SlabHouse x = new SlabHouse();
        DUE.is("the least", 0, x.cache(8, 8, 0, Integer.MIN_VALUE));
        DUE.is("the greatest", 1, x.cache(4096, 64, 3, Integer.MAX_VALUE));
        DUE.is("one object that fills its slab", 2, x.cache(1024, 64, 0, -1));
        DUE.is("one object that only fits rounded up", 3, x.cache(968, 64, 0, 0));
        DUE.is("4096 in order 2", 4, x.cache(4096, 8, 2, 0));
    }

    private static void cacheRefuses() {
        SlabHouse x = new SlabHouse();
        refused(x, 0, 8, 0);
        refused(x, -8, 8, 0);
        refused(x, 4, 8, 0);
        refused(x, 12, 8, 0);
        refused(x, 4104, 8, 3);
        refused(x, Integer.MAX_VALUE, 8, 3);
        refused(x, Integer.MIN_VALUE, 8, 3);
        refused(x, Integer.MAX_VALUE - 7, 8, 3);
        for (int align : new int[] {0, 1, 4, 7, 9, 24, 40, 48, 63, 65, 128, -8, Integer.MIN_VALUE}) {
            refused(x, 64, align, 0);
        }
        refused(x, 64, 8, -1);
        refused(x, 64, 8, 4);
        refused(x, 64, 8, 32);
        refused(x, 64, 8, Integer.MIN_VALUE);
        refused(x, 1032, 8, 0);
        refused(x, 2056, 8, 1);
        refused(x, 4096, 8, 1);
        DUE.is("refusals told no number", 0, x.cache(8, 8, 0, 0));
    }

    private static void refused(SlabHouse x, int size, int align, int order) {
        DUE.throwing("cache(" + size + ", " + align + ", " + order + ", 0)", IllegalArgumentException.class,
                () -> x.cache(size, align, order, 0));
    }

    private static void eightCaches() {
        SlabHouse x = new SlabHouse();
        for (int number = 0; number < 8; number++) {
            DUE.is("cache " + number, number, x.cache(16, 8, 0, number));
        }
        DUE.is("the ninth", -1, x.cache(16, 8, 0, 0));
        refused(x, 15, 8, 0);
        refused(x, 2048, 8, 0);
        DUE.is("drop(3)", 0, x.drop(3));
        DUE.is("a dropped number is never told again", -1, x.cache(16, 8, 0, 0));
        SlabHouse y = new SlabHouse();
        y.cache(16, 8, 0, 0);
        y.drop(0);
        DUE.is("the next number after a drop", 1, y.cache(16, 8, 0, 0));
    }

    private static void drop() {
        SlabHouse x = new SlabHouse();
        x.cache(2048, 8, 1, 0);
        x.cache(1024, 8, 0, 0);
        DUE.is("a first object", 0, x.allocate(0, 0));
        DUE.is("an object of the other", 2048, x.allocate(1, 0));
        DUE.is("a second object", 4096, x.allocate(0, 0));
        DUE.throwing("drop(0) with two live", IllegalStateException.class, () -> x.drop(0));
        x.free(0, 0);
        DUE.throwing("drop(0) with one live", IllegalStateException.class, () -> x.drop(0));
        DUE.is("nothing changed", 2, x.about(0, 4));
        x.free(4096, 1);
        DUE.is("drop(0)", 4, x.drop(0));
        DUE.is("cacheOf(0)", -1, x.cacheOf(0));
        DUE.is("cacheOf(4096)", -1, x.cacheOf(4096));
        DUE.is("cacheOf(2048)", 1, x.cacheOf(2048));
        DUE.is("pages(0)", 255, x.pages(0));
        DUE.is("block(1, 0)", 0, x.block(1, 0));
        DUE.is("block(2, 0)", 4, x.block(2, 0));
        for (int what = -1; what < 9; what++) {
            int asked = what;
            DUE.throwing("about(0, " + what + ")", NoSuchElementException.class, () -> x.about(0, asked));
        }
        DUE.throwing("allocate(0, 0)", NoSuchElementException.class, () -> x.allocate(0, 0));
        DUE.throwing("list(0, 0, 0)", NoSuchElementException.class, () -> x.list(0, 0, 0));
        DUE.throwing("magazine(0, 0, 0)", NoSuchElementException.class, () -> x.magazine(0, 0, 0));
        DUE.throwing("empty(0)", NoSuchElementException.class, () -> x.empty(0));
        DUE.throwing("free(0, 0)", NoSuchElementException.class, () -> x.free(0, 0));
        DUE.is("flush(0) leaves a dropped cache alone", 0, x.flush(0));
        DUE.throwing("drop(0) again", NoSuchElementException.class, () -> x.drop(0));
    }

    private static void dropRefuses() {
        SlabHouse x = new SlabHouse();
        DUE.throwing("drop(0)", NoSuchElementException.class, () -> x.drop(0));
        DUE.throwing("drop(-1)", NoSuchElementException.class, () -> x.drop(-1));
        DUE.throwing("drop(8)", NoSuchElementException.class, () -> x.drop(8));
        DUE.throwing("drop(greatest)", NoSuchElementException.class, () -> x.drop(Integer.MAX_VALUE));
        x.cache(8, 8, 0, 0);
        DUE.throwing("drop(1)", NoSuchElementException.class, () -> x.drop(1));
        DUE.is("drop(0) without slabs", 0, x.drop(0));
    }

    private static void dropWithMagazines() {
        SlabHouse x = new SlabHouse();
        x.cache(64, 8, 0, 0);
        int[] held = new int[30];
        for (int i = 0; i < held.length; i++) {
            held[i] = x.allocate(0, 0);
        }
        for (int i = 0; i < held.length; i++) {
            x.free(held[i], 0);
        }
        DUE.is("the depot is full", 3, x.magazine(0, 0, 2));
        DUE.is("drop(0) with full magazines", 2, x.drop(0));
        DUE.is("pages(0)", 256, x.pages(0));
        DUE.is("a new cache", 1, x.cache(64, 8, 0, 0));
        DUE.is("it has nothing of the old one's", 0, x.about(1, 6));
        DUE.is("its first object", 0, x.allocate(1, 0));
    }

    private static void aboutShape() {
        shape(8, 8, 0, 8, 128, 1);
        shape(8, 64, 0, 64, 16, 1);
        shape(104, 16, 0, 112, 9, 2);
        shape(104, 8, 0, 104, 9, 12);
        shape(72, 64, 3, 128, 64, 1);
        shape(600, 8, 0, 600, 1, 54);
        shape(600, 32, 0, 608, 1, 14);
        shape(600, 64, 0, 640, 1, 7);
        shape(4096, 8, 3, 4096, 2, 1);
        shape(4088, 8, 2, 4088, 1, 2);
        shape(4088, 16, 2, 4096, 1, 1);
        shape(24, 16, 1, 32, 64, 1);
        shape(2040, 8, 3, 2040, 4, 5);
    }

    private static void shape(int size, int align, int order, int stride, int objects, int colours) {
        SlabHouse x = new SlabHouse();
        x.cache(size, align, order, 0);
        String of = " of cache(" + size + ", " + align + ", " + order + ")";
        DUE.is("STRIDE" + of, stride, x.about(0, 0));
        DUE.is("OBJECTS" + of, objects, x.about(0, 1));
        DUE.is("COLOURS" + of, colours, x.about(0, 2));
        for (int what = 3; what < 8; what++) {
            DUE.is("about(0, " + what + ")" + of, 0, x.about(0, what));
        }
    }

    private static void aboutCounts() {
        SlabHouse x = new SlabHouse();
        x.cache(1000, 8, 0, 0);
        x.cache(8, 8, 0, 0);
        int[] held = new int[4];
        for (int i = 0; i < held.length; i++) {
            DUE.is("the next colour", i, x.about(0, 3));
            held[i] = x.allocate(0, i);
            DUE.is("object " + i + " begins at its colour", 1024 * i + 8 * i, held[i]);
        }
        DUE.is("four colours: the next is 0", 0, x.about(0, 3));
        DUE.is("the fifth has colour 0", 4096, x.allocate(0, 0));
        DUE.is("slabs", 5, x.about(0, 4));
        DUE.is("live", 5, x.about(0, 5));
        DUE.is("in magazines", 0, x.about(0, 6));
        x.free(held[1], 2);
        x.free(held[2], 3);
        DUE.is("live", 3, x.about(0, 5));
        DUE.is("in magazines of two processors", 2, x.about(0, 6));
        x.flush(2);
        DUE.is("in magazines after a flush", 1, x.about(0, 6));
        DUE.is("live after a flush", 3, x.about(0, 5));
        DUE.is("slabs after a flush", 5, x.about(0, 4));
        x.reap();
        DUE.is("slabs after a reap", 4, x.about(0, 4));
        DUE.is("a reap leaves the next colour alone", 1, x.about(0, 3));
        DUE.is("the other cache's slabs", 0, x.about(1, 4));
    }

    private static void aboutRefuses() {
        SlabHouse x = new SlabHouse();
        x.cache(8, 8, 0, 0);
        DUE.throwing("about(0, 8)", IllegalArgumentException.class, () -> x.about(0, 8));
        DUE.throwing("about(0, -1)", IllegalArgumentException.class, () -> x.about(0, -1));
        DUE.throwing("about(1, 0)", NoSuchElementException.class, () -> x.about(1, 0));
        DUE.throwing("about(1, 8)", NoSuchElementException.class, () -> x.about(1, 8));
        DUE.throwing("about(-1, 0)", NoSuchElementException.class, () -> x.about(-1, 0));
        DUE.throwing("about(8, 0)", NoSuchElementException.class, () -> x.about(8, 0));
    }
}

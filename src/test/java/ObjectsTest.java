import java.util.NoSuchElementException;

/** Promises 4 (allocate), 5 (free), 6 (mark), 10 (cacheOf) and 11 (objectOf). */
public final class ObjectsTest {
    private static final Due DUE = new Due();

    public static void main(String[] args) {
        allocate();
        allocateRefuses();
        allocateNone();
        free();
        freeRefusesInOrder();
        mark();
        cacheOf();
        objectOf();
        DUE.end();
    }

    private static void allocate() {
        SlabHouse x = new SlabHouse();
        x.cache(24, 16, 0, 5);
        for (int i = 0; i < 32; i++) {
            DUE.is("object " + i, 32 * i, x.allocate(0, i % 4));
        }
        DUE.is("the first of a new slab", 1024, x.allocate(0, 0));
        x.free(64, 1);
        x.free(96, 1);
        DUE.is("a processor without any takes of the slabs", 1056, x.allocate(0, 2));
        DUE.is("what came last is taken first", 96, x.allocate(0, 1));
        DUE.is("then what came before", 64, x.allocate(0, 1));
        x.free(64, 1);
        x.free(96, 1);
        x.flush(1);
        DUE.is("what came back last to its slab is first", 64, x.allocate(0, 1));
    }

    private static void allocateRefuses() {
        SlabHouse x = new SlabHouse();
        DUE.throwing("allocate(0, 9)", NoSuchElementException.class, () -> x.allocate(0, 9));
        x.cache(8, 8, 0, 0);
        DUE.throwing("allocate(-1, 0)", NoSuchElementException.class, () -> x.allocate(-1, 0));
        DUE.throwing("allocate(1, 0)", NoSuchElementException.class, () -> x.allocate(1, 0));
        DUE.throwing("allocate(8, -1)", NoSuchElementException.class, () -> x.allocate(8, -1));
        DUE.throwing("allocate(0, 4)", IllegalArgumentException.class, () -> x.allocate(0, 4));
        DUE.throwing("allocate(0, -1)", IllegalArgumentException.class, () -> x.allocate(0, -1));
        DUE.is("refusals made no slab", 0, x.about(0, 4));
        DUE.is("refusals are no lack of objects", 0, x.about(0, 7));
    }

    private static void allocateNone() {
        SlabHouse x = new SlabHouse();
        x.cache(4096, 64, 2, 1);
        x.cache(8, 8, 0, 1);
        for (int i = 0; i < 64; i++) {
            DUE.is("object " + i, 4096 * i, x.allocate(0, 0));
        }
        DUE.is("all memory is taken", -1, x.allocate(0, 0));
        DUE.is("for the other cache, too", -1, x.allocate(1, 3));
        DUE.is("again", -1, x.allocate(0, 1));
        DUE.is("how often of cache 0", 2, x.about(0, 7));
        DUE.is("how often of cache 1", 1, x.about(1, 7));
        DUE.is("live", 64, x.about(0, 5));
        x.free(4096 * 9, 2);
        DUE.is("another processor's magazine does not help", -1, x.allocate(0, 0));
        DUE.is("its own does", 4096 * 9, x.allocate(0, 2));
        x.free(4096 * 9, 2);
        x.flush(2);
        DUE.is("an empty slab goes to the other cache", 4096 * 9, x.allocate(1, 0));
        DUE.is("slabs of cache 0", 63, x.about(0, 4));
        DUE.is("pages(0)", 3, x.pages(0));
        DUE.is("the last one that helps itself to a lone page", -1, x.allocate(0, 0));
    }

    private static void free() {
        SlabHouse x = new SlabHouse();
        x.cache(512, 8, 0, 0);
        x.cache(512, 8, 0, 3);
        int a = x.allocate(0, 0);
        int b = x.allocate(1, 0);
        DUE.is("free answers its cache", 1, x.free(b, 3));
        DUE.is("it came to that processor", 1, x.magazine(1, 3, 0));
        DUE.is("free answers its cache", 0, x.free(a, 2));
        DUE.throwing("free of what is in a magazine", NoSuchElementException.class, () -> x.free(a, 2));
        x.flush(2);
        DUE.throwing("free of what is FREE", NoSuchElementException.class, () -> x.free(a, 2));
        DUE.is("live", 0, x.about(0, 5));
        DUE.is("taken again", a, x.allocate(0, 1));
        DUE.is("and freed again", 0, x.free(a, 1));
    }

    private static void freeRefusesInOrder() {
        SlabHouse x = new SlabHouse();
        x.cache(104, 16, 0, 7);
        int a = x.allocate(0, 0);
        int b = x.allocate(0, 0);
        x.mark(b, 8);
        DUE.throwing("free inside an object", NoSuchElementException.class, () -> x.free(a + 8, 0));
        DUE.throwing("free there, without processor", NoSuchElementException.class, () -> x.free(a + 8, 4));
        DUE.throwing("free of one never taken", NoSuchElementException.class, () -> x.free(b + 112, 0));
        DUE.throwing("free behind the last object", NoSuchElementException.class, () -> x.free(1008, 0));
        DUE.throwing("free(-1, 0)", NoSuchElementException.class, () -> x.free(-1, 0));
        DUE.throwing("free(262144, 0)", NoSuchElementException.class, () -> x.free(262144, 0));
        DUE.throwing("free(262143, 0)", NoSuchElementException.class, () -> x.free(262143, 0));
        DUE.throwing("free(least, 0)", NoSuchElementException.class, () -> x.free(Integer.MIN_VALUE, 0));
        DUE.throwing("free(greatest, 0)", NoSuchElementException.class, () -> x.free(Integer.MAX_VALUE, 0));
        DUE.throwing("free(b, 4) with another mark", IllegalArgumentException.class, () -> x.free(b, 4));
        DUE.throwing("free(b, -1)", IllegalArgumentException.class, () -> x.free(b, -1));
        DUE.throwing("free(b, 0) with another mark", IllegalStateException.class, () -> x.free(b, 0));
        DUE.is("still live", b, x.objectOf(b));
        DUE.is("live", 2, x.about(0, 5));
        DUE.is("no magazine has any", 0, x.about(0, 6));
        x.mark(b, 7);
        DUE.is("with the tag again", 0, x.free(b, 0));
        SlabHouse y = new SlabHouse();
        y.cache(600, 8, 0, 0);
        y.allocate(0, 0);
        DUE.is("the second slab has colour 1", 1032, y.allocate(0, 0));
        DUE.throwing("free before the colour", NoSuchElementException.class, () -> y.free(1024, 0));
        DUE.throwing("free one stride on", NoSuchElementException.class, () -> y.free(1632, 0));
        DUE.is("free at the colour", 0, y.free(1032, 0));
    }

    private static void mark() {
        SlabHouse x = new SlabHouse();
        x.cache(104, 16, 0, Integer.MIN_VALUE);
        int a = x.allocate(0, 0);
        int b = x.allocate(0, 0);
        DUE.is("the tag at first", Integer.MIN_VALUE, x.mark(a, 5));
        DUE.is("what it was", 5, x.mark(a, -1));
        DUE.is("what it was", -1, x.mark(a, Integer.MIN_VALUE));
        DUE.is("its neighbour's", Integer.MIN_VALUE, x.mark(b, Integer.MAX_VALUE));
        DUE.is("its own", Integer.MIN_VALUE, x.mark(a, Integer.MIN_VALUE));
        DUE.throwing("mark inside", NoSuchElementException.class, () -> x.mark(a + 1, 0));
        DUE.throwing("mark of one never taken", NoSuchElementException.class, () -> x.mark(b + 112, 0));
        DUE.throwing("mark(-1, 0)", NoSuchElementException.class, () -> x.mark(-1, 0));
        DUE.throwing("mark(-112, 0)", NoSuchElementException.class, () -> x.mark(-112, 0));
        DUE.throwing("mark(262144, 0)", NoSuchElementException.class, () -> x.mark(262144, 0));
        DUE.throwing("mark on a free page", NoSuchElementException.class, () -> x.mark(2048, 0));
        x.free(a, 0);
        DUE.throwing("mark in a magazine", NoSuchElementException.class, () -> x.mark(a, 0));
        DUE.is("taken again", a, x.allocate(0, 0));
        DUE.is("it kept its tag", Integer.MIN_VALUE, x.mark(a, Integer.MIN_VALUE));
        DUE.is("a slab made anew gives the tag again", 0, marksOfNewSlab());
    }

    private static int marksOfNewSlab() {
        SlabHouse x = new SlabHouse();
        x.cache(1024, 8, 0, 4);
        x.cache(1024, 8, 0, 9);
        x.free(x.allocate(0, 0), 0);
        x.drop(0);
        int a = x.allocate(1, 0);
        return a == 0 && x.mark(a, 1) == 9 ? 0 : 1;
    }

    private static void cacheOf() {
        SlabHouse x = new SlabHouse();
        x.cache(600, 8, 0, 0);
        x.cache(4096, 8, 3, 0);
        x.allocate(0, 0);
        x.allocate(1, 0);
        x.allocate(0, 0);
        DUE.is("first byte", 0, x.cacheOf(0));
        DUE.is("a spare byte", 0, x.cacheOf(1023));
        DUE.is("a byte before the colour", 0, x.cacheOf(1024));
        DUE.is("a free page", -1, x.cacheOf(2048));
        DUE.is("behind a free page", -1, x.cacheOf(8191));
        DUE.is("first byte of the large slab", 1, x.cacheOf(8192));
        DUE.is("last byte of the large slab", 1, x.cacheOf(16383));
        DUE.is("behind the large slab", -1, x.cacheOf(16384));
        DUE.is("the last address", -1, x.cacheOf(262143));
        DUE.is("behind it", -1, x.cacheOf(262144));
        DUE.is("-1", -1, x.cacheOf(-1));
        DUE.is("least", -1, x.cacheOf(Integer.MIN_VALUE));
        DUE.is("greatest", -1, x.cacheOf(Integer.MAX_VALUE));
        x.free(0, 0);
        DUE.is("of a slab without live objects", 0, x.cacheOf(0));
        x.flush(0);
        DUE.is("of an empty slab", 0, x.cacheOf(0));
    }

    private static void objectOf() {
        SlabHouse x = new SlabHouse();
        x.cache(296, 32, 0, 0);
        for (int i = 0; i < 4; i++) {
            x.allocate(0, 0);
        }
        DUE.is("of a slab of colour 1", 1056, x.slab(1024, 0) + 32);
        DUE.is("first byte", 0, x.objectOf(0));
        DUE.is("last byte of SIZE", 0, x.objectOf(295));
        DUE.is("behind SIZE", -1, x.objectOf(296));
        DUE.is("last byte of STRIDE", -1, x.objectOf(319));
        DUE.is("the next object", 320, x.objectOf(320));
        DUE.is("the third object's last byte", 640, x.objectOf(935));
        DUE.is("behind it", -1, x.objectOf(936));
        DUE.is("spare bytes", -1, x.objectOf(960));
        DUE.is("spare bytes", -1, x.objectOf(1023));
        DUE.is("before the colour", -1, x.objectOf(1024));
        DUE.is("before the colour", -1, x.objectOf(1055));
        DUE.is("at the colour", 1056, x.objectOf(1056));
        DUE.is("behind its SIZE", -1, x.objectOf(1352));
        DUE.is("one that is FREE", -1, x.objectOf(1376));
        x.free(320, 0);
        DUE.is("one in a magazine", -1, x.objectOf(330));
        DUE.is("a free page", -1, x.objectOf(2048));
        DUE.is("-1", -1, x.objectOf(-1));
        DUE.is("262143", -1, x.objectOf(262143));
        DUE.is("262144", -1, x.objectOf(262144));
        DUE.is("least", -1, x.objectOf(Integer.MIN_VALUE));
        DUE.is("greatest", -1, x.objectOf(Integer.MAX_VALUE));
    }
}

/** Promises 1 (a new object), 9 (reap), 16 (block) and 17 (pages): MEMORY and its BLOCKS. */
public final class PagesTest {
    private static final Due DUE = new Due();

    public static void main(String[] args) {
        newObject();
        reap();
        reapOfSeveralCaches();
        block();
        blocksAreHalvedAndPutTogether();
        takesTheLeastOrderFirst();
        pages();
        emptySlabsGoWhenMemoryIsShort();
        DUE.end();
    }

    private static void newObject() {
        SlabHouse x = new SlabHouse();
        DUE.is("pages(0)", 256, x.pages(0));
        DUE.is("pages(1)", 0, x.pages(1));
        for (int k = 0; k < 4; k++) {
            DUE.is("block(6, " + k + ")", 64 * k, x.block(6, k));
        }
        for (int order = 0; order < 6; order++) {
            DUE.is("block(" + order + ", 0)", -1, x.block(order, 0));
        }
        for (int number = 0; number < 8; number++) {
            int cache = number;
            DUE.throwing("about of none", java.util.NoSuchElementException.class, () -> x.about(cache, 0));
        }
        DUE.is("cacheOf(0)", -1, x.cacheOf(0));
        DUE.is("objectOf(0)", -1, x.objectOf(0));
        DUE.is("reap()", 0, x.reap());
        DUE.is("flush(0)", 0, x.flush(0));
        new SlabHouse().cache(8, 8, 0, 0);
        DUE.is("the first cache, whatever another object has", 0, x.cache(8, 8, 0, 0));
    }

    private static void reap() {
        SlabHouse x = new SlabHouse();
        x.cache(1024, 8, 1, 0);
        int[] held = new int[6];
        for (int i = 0; i < 6; i++) {
            held[i] = x.allocate(0, 0);
        }
        DUE.is("reap() with full slabs", 0, x.reap());
        for (int i = 0; i < 5; i++) {
            x.free(held[i], 0);
        }
        DUE.is("reap() while magazines hold them", 0, x.reap());
        DUE.is("flush(0)", 5, x.flush(0));
        DUE.is("slabs", 3, x.about(0, 4));
        DUE.is("reap() of two slabs of two pages", 4, x.reap());
        DUE.is("slabs after reap", 1, x.about(0, 4));
        DUE.is("list(0, 2, 0) after reap", -1, x.list(0, 2, 0));
        DUE.is("list(0, 1, 0) after reap", 4096, x.list(0, 1, 0));
        DUE.is("cacheOf a reaped page", -1, x.cacheOf(0));
        DUE.is("cacheOf a kept page", 0, x.cacheOf(4096));
        DUE.is("block(2, 0)", 0, x.block(2, 0));
        DUE.is("block(1, 0)", 6, x.block(1, 0));
        DUE.is("reap() again", 0, x.reap());
    }

    private static void reapOfSeveralCaches() {
        SlabHouse x = new SlabHouse();
        for (int order = 0; order < 4; order++) {
            x.cache(1024, 64, order, 0);
            x.free(x.allocate(order, 3), 3);
        }
        DUE.is("pages(1)", 15, x.pages(1));
        x.flush(3);
        x.drop(1);
        DUE.is("reap() of orders 0, 2 and 3", 13, x.reap());
        DUE.is("pages(0)", 256, x.pages(0));
        DUE.is("block(6, 3)", 192, x.block(6, 3));
    }

    private static void block() {
        SlabHouse x = new SlabHouse();
        DUE.throwing("block(7, 0)", IllegalArgumentException.class, () -> x.block(7, 0));
        DUE.throwing("block(-1, 0)", IllegalArgumentException.class, () -> x.block(-1, 0));
        DUE.throwing("block(7, -1)", IllegalArgumentException.class, () -> x.block(7, -1));
        DUE.throwing("block(least, 0)", IllegalArgumentException.class, () -> x.block(Integer.MIN_VALUE, 0));
        DUE.is("block(6, 4)", -1, x.block(6, 4));
        DUE.is("block(6, -1)", -1, x.block(6, -1));
        DUE.is("block(6, greatest)", -1, x.block(6, Integer.MAX_VALUE));
        DUE.is("block(6, least)", -1, x.block(6, Integer.MIN_VALUE));
    }

    private static void blocksAreHalvedAndPutTogether() {
        SlabHouse x = new SlabHouse();
        x.cache(1024, 8, 0, 0);
        int a = x.allocate(0, 0);
        for (int order = 0; order < 6; order++) {
            DUE.is("the upper half of order " + order, 1 << order, x.block(order, 0));
            DUE.is("only one of order " + order, -1, x.block(order, 1));
        }
        DUE.is("block(6, 0)", 64, x.block(6, 0));
        DUE.is("block(6, 3)", -1, x.block(6, 3));
        int b = x.allocate(0, 0);
        int c = x.allocate(0, 0);
        DUE.is("the second page", 1024, b);
        DUE.is("the third page", 2048, c);
        x.free(a, 0);
        x.free(c, 0);
        x.flush(0);
        x.reap();
        DUE.is("page 0 stays alone", 0, x.block(0, 0));
        DUE.is("pages 2 and 3 are one, but not with page 0", 2, x.block(1, 0));
        DUE.is("block(0, 1)", -1, x.block(0, 1));
        x.free(b, 0);
        x.flush(0);
        x.reap();
        DUE.is("block(6, 0) is whole again", 0, x.block(6, 0));
        DUE.is("no greater block than order 6", 192, x.block(6, 3));
        DUE.is("block(0, 0)", -1, x.block(0, 0));
    }

    private static void takesTheLeastOrderFirst() {
        SlabHouse x = new SlabHouse();
        x.cache(1024, 8, 0, 0);
        x.cache(4096, 8, 2, 0);
        int low = x.allocate(0, 0);
        DUE.is("order 2 comes of pages 4 to 7", 4096, x.allocate(1, 0));
        DUE.is("order 2 comes of pages 8 to 11", 8192, x.allocate(1, 0));
        int high = x.allocate(0, 0);
        DUE.is("page 1", 1024, high);
        x.free(low, 0);
        x.flush(0);
        x.reap();
        DUE.is("block(0, 0)", 0, x.block(0, 0));
        DUE.is("the single page before a lower part of a greater one", 0, x.allocate(0, 0));
        DUE.is("then the pair is halved", 2048, x.allocate(0, 0));
        DUE.is("block(0, 0) is its upper half", 3, x.block(0, 0));
        SlabHouse y = new SlabHouse();
        y.cache(1024, 8, 0, 0);
        for (int i = 0; i < 6; i++) {
            y.allocate(0, 0);
        }
        y.free(0, 0);
        y.free(1024, 0);
        y.free(5 * 1024, 0);
        y.flush(0);
        y.reap();
        DUE.is("block(1, 0)", 0, y.block(1, 0));
        DUE.is("block(0, 0)", 5, y.block(0, 0));
        DUE.is("the least order goes before the lowest page", 5 * 1024, y.allocate(0, 0));
        DUE.is("block(1, 1)", 6, y.block(1, 1));
        DUE.is("of one order the lowest page", 0, y.allocate(0, 0));
    }

    private static void pages() {
        SlabHouse x = new SlabHouse();
        x.cache(8, 8, 3, 0);
        x.cache(8, 8, 0, 0);
        x.allocate(0, 0);
        x.allocate(1, 0);
        DUE.is("pages(0)", 247, x.pages(0));
        DUE.is("pages(1)", 9, x.pages(1));
        DUE.is("pages(2)", -1, x.pages(2));
        DUE.is("pages(-1)", -1, x.pages(-1));
        DUE.is("pages(least)", -1, x.pages(Integer.MIN_VALUE));
        DUE.is("pages(greatest)", -1, x.pages(Integer.MAX_VALUE));
    }

    private static void emptySlabsGoWhenMemoryIsShort() {
        SlabHouse x = new SlabHouse();
        x.cache(4096, 8, 3, 0);
        x.cache(4096, 8, 2, 0);
        x.cache(1024, 8, 0, 0);
        int single = x.allocate(2, 0);
        for (int i = 0; i < 2 * 31; i++) {
            x.allocate(0, 0);
        }
        int quarter = x.allocate(1, 0);
        DUE.is("quarter", 4096, quarter);
        DUE.is("no block of order 3 is left", -1, x.allocate(0, 0));
        DUE.is("how often there was no object", 1, x.about(0, 7));
        x.free(quarter, 0);
        DUE.is("a magazine keeps its slab", -1, x.allocate(0, 0));
        x.flush(0);
        DUE.is("one empty slab is there", 4096, x.list(1, 2, 0));
        DUE.is("it goes, but page 0 is still taken", -1, x.allocate(0, 0));
        DUE.is("it went though no object came", -1, x.list(1, 2, 0));
        DUE.is("its pages are free", 7, x.pages(0));
        DUE.is("how often there was no object", 3, x.about(0, 7));
        x.free(single, 0);
        x.flush(0);
        int colour = x.about(0, 3);
        DUE.is("both are given back for this one", 0, x.allocate(0, 0));
        DUE.is("slabs of cache 2", 0, x.about(2, 4));
        DUE.is("the colour that no failure used up", colour, x.slab(0, 1));
        DUE.is("how often there was no object", 3, x.about(0, 7));
    }
}

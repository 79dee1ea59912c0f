import java.util.NoSuchElementException;

/**
 * The boundary cases of MEMORY and its BLOCKS, sentence by sentence: TAKING, GIVING, and promises
 * 1 (a new object), 9 (reap), 16 (block) and 17 (pages).
 */
public final class BlockEdgesTest {
    private static final Due DUE = new Due();
    private static final String WHOLE = "6:0,64,128,192";
    private static final String WITHOUT_PAGE_0 = "0:1 1:2 2:4 3:8 4:16 5:32 6:64,128,192";

    public static void main(String[] args) {
        memoryBegins();
        memoryEnds();
        blocksBeginAtMultiples();
        takingTheOrderItself();
        takingTheNextOrder();
        takingTheLeastOrderBeforeTheLowestPage();
        takingTheLowestPageOfAnOrder();
        takingOfOrderSix();
        takingTheLastBlock();
        takingWhereNoneIsLargeEnough();
        givingBehindTheUpperHalf();
        givingBehindTheLowerHalf();
        givingBesideATakenHalf();
        givingBesideAHalvedHalf();
        givingBesideAStranger();
        givingUpToOrderSix();
        givingLargerOnes();
        newObject();
        reapOfNothing();
        reapLeavesFullAndPartial();
        reapLeavesWhatMagazinesHold();
        reapOfEveryOrder();
        reapOfSeveralSlabs();
        reapAfterADrop();
        block();
        pages();
        DUE.end();
    }

    /** Cache k has slabs of ORDER k with one object, but two of ORDER 3. */
    private static SlabHouse withOrders() {
        SlabHouse x = new SlabHouse();
        x.cache(1024, 8, 0, 0);
        x.cache(2048, 8, 1, 0);
        x.cache(4096, 8, 2, 0);
        x.cache(4096, 8, 3, 0);
        return x;
    }

    /** Gives back the slab of which this object is the only one that is not FREE. */
    private static void give(SlabHouse x, int page) {
        x.free(1024 * page, 0);
        x.flush(0);
        x.reap();
    }

    private static void taken(String what, SlabHouse x, int cache, int page) {
        DUE.is(what + ": allocate(" + cache + ", 0)", 1024 * page, x.allocate(cache, 0));
    }

    /** The free blocks of every order that has some, as block tells them. */
    private static String free(SlabHouse x) {
        StringBuilder text = new StringBuilder();
        for (int order = 0; order <= 6; order++) {
            String mark = text.length() == 0 ? order + ":" : " " + order + ":";
            int k = 0;
            for (int page = x.block(order, 0); page != -1; page = x.block(order, k)) {
                text.append(mark).append(page);
                mark = ",";
                k++;
            }
        }
        return text.toString();
    }

    private static void memoryBegins() {
        DUE.sentence("an ADDRESS is a byte's number, 0 .. 262,143: the first");
        SlabHouse x = withOrders();
        taken("page 0", x, 0, 0);
        DUE.is("cacheOf(0)", 0, x.cacheOf(0));
        DUE.is("cacheOf(-1)", -1, x.cacheOf(-1));
        DUE.is("objectOf(0)", 0, x.objectOf(0));
        DUE.is("objectOf(-1)", -1, x.objectOf(-1));
        DUE.is("slab(0, 0)", 0, x.slab(0, 0));
        DUE.throwing("slab(-1, 0)", NoSuchElementException.class, () -> x.slab(-1, 0));
        DUE.throwing("mark(-1, 0)", NoSuchElementException.class, () -> x.mark(-1, 0));
        DUE.is("mark(0, 0)", 0, x.mark(0, 0));
        DUE.throwing("free(-1, 0)", NoSuchElementException.class, () -> x.free(-1, 0));
        DUE.is("free(0, 0)", 0, x.free(0, 0));
    }

    private static void memoryEnds() {
        DUE.sentence("MEMORY has 256 PAGES of 1024 bytes; an ADDRESS is .. 0 .. 262,143: the last");
        SlabHouse x = withOrders();
        for (int page = 0; page < 256; page++) {
            taken("page " + page, x, 0, page);
        }
        DUE.is("a 257th page", -1, x.allocate(0, 0));
        DUE.is("pages(0)", 0, x.pages(0));
        DUE.is("pages(1)", 256, x.pages(1));
        DUE.same("free blocks", "", free(x));
        DUE.is("cacheOf(262143)", 0, x.cacheOf(262143));
        DUE.is("cacheOf(262144)", -1, x.cacheOf(262144));
        DUE.is("objectOf(262143)", 261120, x.objectOf(262143));
        DUE.is("objectOf(262144)", -1, x.objectOf(262144));
        DUE.is("slab(262143, 0)", 261120, x.slab(262143, 0));
        DUE.throwing("slab(262144, 0)", NoSuchElementException.class, () -> x.slab(262144, 0));
        DUE.is("mark(261120, 0)", 0, x.mark(261120, 0));
        DUE.throwing("mark(262144, 0)", NoSuchElementException.class, () -> x.mark(262144, 0));
        DUE.throwing("free(262144, 0)", NoSuchElementException.class, () -> x.free(262144, 0));
        DUE.is("free(261120, 0)", 0, x.free(261120, 0));
    }

    private static void blocksBeginAtMultiples() {
        DUE.sentence("BLOCKS of ORDER k .. begin at a page whose number is a multiple of 2^k");
        SlabHouse x = withOrders();
        taken("order 0", x, 0, 0);
        taken("order 3 behind it", x, 3, 8);
        taken("order 2 behind it", x, 2, 4);
        taken("order 1 behind it", x, 1, 2);
        taken("order 0 again", x, 0, 1);
        taken("order 0 behind all", x, 0, 16);
        taken("order 1 behind that", x, 1, 18);
        DUE.is("pages in slabs", 1 + 8 + 4 + 2 + 1 + 1 + 2, x.pages(1));
    }

    private static void takingTheOrderItself() {
        DUE.sentence("TAKING: the least ORDER that is not below k: one of ORDER k itself is not halved");
        for (int order = 0; order <= 3; order++) {
            SlabHouse x = withOrders();
            x.allocate(0, 0);
            String without = WITHOUT_PAGE_0.replace(order + ":" + (1 << order) + " ", "");
            taken("order " + order, x, order, 1 << order);
            DUE.same("free blocks", without, free(x));
        }
    }

    private static void takingTheNextOrder() {
        DUE.sentence("TAKING: as long as its ORDER is above k, it is halved, and its upper half is free");
        SlabHouse x = withOrders();
        taken("page 0", x, 0, 0);
        DUE.same("halved six times", WITHOUT_PAGE_0, free(x));
        taken("page 1", x, 0, 1);
        taken("page 2", x, 0, 2);
        DUE.same("halved once", "0:3 2:4 3:8 4:16 5:32 6:64,128,192", free(x));
        taken("page 4", x, 1, 4);
        DUE.same("halved once", "0:3 1:6 3:8 4:16 5:32 6:64,128,192", free(x));
        taken("page 8", x, 2, 8);
        DUE.same("halved once", "0:3 1:6 2:12 4:16 5:32 6:64,128,192", free(x));
        taken("page 16", x, 3, 16);
        DUE.same("halved once", "0:3 1:6 2:12 3:24 5:32 6:64,128,192", free(x));
    }

    private static void takingTheLeastOrderBeforeTheLowestPage() {
        DUE.sentence("TAKING: of the free ones of the least ORDER that is not below k");
        SlabHouse x = withOrders();
        for (int i = 0; i < 6; i++) {
            x.allocate(0, 0);
        }
        give(x, 0);
        give(x, 1);
        give(x, 5);
        DUE.same("free blocks", "0:5 1:0,6 3:8 4:16 5:32 6:64,128,192", free(x));
        taken("a lone page before a lower pair", x, 0, 5);
        taken("the order below k does not do", x, 2, 8);
    }

    private static void takingTheLowestPageOfAnOrder() {
        DUE.sentence("TAKING: .. the one with the lowest page is taken");
        SlabHouse x = withOrders();
        for (int i = 0; i < 8; i++) {
            x.allocate(0, 0);
        }
        give(x, 6);
        give(x, 2);
        give(x, 4);
        DUE.same("free blocks", "0:2,4,6 3:8 4:16 5:32 6:64,128,192", free(x));
        taken("the lowest, not the one that came last", x, 0, 2);
        taken("the next one", x, 0, 4);
        taken("the last one", x, 0, 6);
    }

    private static void takingOfOrderSix() {
        DUE.sentence("TAKING: .. of ORDER 6, the one with the lowest page");
        SlabHouse x = withOrders();
        for (int page = 0; page < 64; page += 4) {
            taken("the first 64 pages", x, 2, page);
        }
        DUE.same("three are left", "6:64,128,192", free(x));
        taken("the second block of order 6", x, 0, 64);
        DUE.same("halved six times", "0:65 1:66 2:68 3:72 4:80 5:96 6:128,192", free(x));
    }

    private static void takingTheLastBlock() {
        DUE.sentence("TAKING: the last BLOCK, and none behind it");
        SlabHouse x = withOrders();
        for (int page = 0; page < 256; page += 4) {
            taken("order 2", x, 2, page);
        }
        DUE.same("free blocks", "", free(x));
        for (int cache = 0; cache <= 3; cache++) {
            DUE.is("allocate(" + cache + ", 0)", -1, x.allocate(cache, 0));
        }
    }

    private static void takingWhereNoneIsLargeEnough() {
        DUE.sentence("TAKING: pages are free, but no BLOCK that is not below ORDER k");
        SlabHouse x = withOrders();
        for (int page = 0; page < 248; page += 4) {
            x.allocate(2, 0);
        }
        for (int page = 248; page < 256; page++) {
            x.allocate(0, 0);
        }
        give(x, 249);
        give(x, 250);
        give(x, 252);
        give(x, 255);
        DUE.same("free blocks", "0:249,250,252,255", free(x));
        DUE.is("order 1", -1, x.allocate(1, 0));
        DUE.is("order 2", -1, x.allocate(2, 0));
        DUE.is("pages(0)", 4, x.pages(0));
        give(x, 254);
        DUE.is("order 2 still not", -1, x.allocate(2, 0));
        taken("order 1", x, 1, 254);
        taken("order 0", x, 0, 249);
    }

    private static void givingBehindTheUpperHalf() {
        DUE.sentence("GIVING: the other half of the BLOCK .. is free, both are that one: the lower half is given");
        SlabHouse x = withOrders();
        x.allocate(0, 0);
        x.allocate(0, 0);
        give(x, 1);
        DUE.same("the upper half alone", WITHOUT_PAGE_0, free(x));
        give(x, 0);
        DUE.same("both", WHOLE, free(x));
    }

    private static void givingBehindTheLowerHalf() {
        DUE.sentence("GIVING: the other half of the BLOCK .. is free, both are that one: the upper half is given");
        SlabHouse x = withOrders();
        x.allocate(0, 0);
        x.allocate(0, 0);
        give(x, 0);
        DUE.same("the lower half alone", "0:0 1:2 2:4 3:8 4:16 5:32 6:64,128,192", free(x));
        give(x, 1);
        DUE.same("both", WHOLE, free(x));
    }

    private static void givingBesideATakenHalf() {
        DUE.sentence("GIVING: the other half is not free: what is given is free as it is");
        SlabHouse x = withOrders();
        taken("order 3", x, 3, 0);
        taken("its other object", x, 3, 4);
        taken("order 3 again", x, 3, 8);
        give(x, 8);
        DUE.same("the upper half, put together with nothing", "3:8 4:16 5:32 6:64,128,192", free(x));
    }

    private static void givingBesideAHalvedHalf() {
        DUE.sentence("GIVING: the other half is free in a part only");
        SlabHouse x = withOrders();
        taken("order 1", x, 1, 0);
        taken("order 0", x, 0, 2);
        give(x, 0);
        DUE.same("page 2 is taken still", "0:3 1:0 2:4 3:8 4:16 5:32 6:64,128,192", free(x));
        give(x, 2);
        DUE.same("all of it", WHOLE, free(x));
        taken("order 0", x, 0, 0);
        taken("order 1", x, 1, 2);
        give(x, 2);
        DUE.same("page 0 is taken still", WITHOUT_PAGE_0, free(x));
    }

    private static void givingBesideAStranger() {
        DUE.sentence("GIVING: the other half of the BLOCK of which it is a half, not any neighbour");
        SlabHouse x = withOrders();
        for (int i = 0; i < 4; i++) {
            x.allocate(0, 0);
        }
        give(x, 1);
        give(x, 2);
        DUE.same("pages 1 and 2 stay two", "0:1,2 2:4 3:8 4:16 5:32 6:64,128,192", free(x));
        give(x, 3);
        DUE.same("pages 2 and 3 do not", "0:1 1:2 2:4 3:8 4:16 5:32 6:64,128,192", free(x));
    }

    private static void givingUpToOrderSix() {
        DUE.sentence("GIVING: as long as its ORDER is below 6");
        SlabHouse x = withOrders();
        for (int page = 0; page < 64; page += 4) {
            x.allocate(2, 0);
        }
        taken("the first page of the second one of order 6", x, 0, 64);
        give(x, 64);
        DUE.same("put together six times", "6:64,128,192", free(x));
        for (int page = 0; page < 64; page += 4) {
            give(x, page);
        }
        DUE.same("never more than order 6", WHOLE, free(x));
    }

    private static void givingLargerOnes() {
        DUE.sentence("GIVING one back: what comes of it is free, for every ORDER of a SLAB");
        for (int order = 0; order <= 3; order++) {
            SlabHouse x = withOrders();
            int pages = 1 << order;
            taken("the first", x, order, 0);
            if (order == 3) {
                x.allocate(3, 0);
            }
            taken("the second", x, order, pages);
            give(x, pages);
            String above = WITHOUT_PAGE_0.substring(WITHOUT_PAGE_0.indexOf(order + ":"));
            DUE.same("the second is given back, order " + order, above, free(x));
            DUE.is("pages(0)", 256 - pages, x.pages(0));
        }
    }

    private static void newObject() {
        DUE.sentence("SlabHouse(): No CACHES; all MEMORY is free.");
        SlabHouse x = new SlabHouse();
        DUE.same("free blocks", WHOLE, free(x));
        DUE.is("pages(0)", 256, x.pages(0));
        DUE.is("pages(1)", 0, x.pages(1));
        for (int number = -1; number <= 8; number++) {
            int c = number;
            DUE.throwing("about(" + c + ", 4)", NoSuchElementException.class, () -> x.about(c, 4));
        }
        for (int page = 0; page < 256; page += 15) {
            DUE.is("cacheOf(" + 1024 * page + ")", -1, x.cacheOf(1024 * page));
        }
        SlabHouse other = withOrders();
        other.allocate(0, 0);
        DUE.is("another object's pages are its own", 256, x.pages(0));
        DUE.is("another object's caches are its own", 0, x.cache(8, 8, 0, 0));
    }

    private static void reapOfNothing() {
        DUE.sentence("reap: All EMPTY SLABS .. are given back: how many PAGES: none");
        SlabHouse x = new SlabHouse();
        DUE.is("reap() without caches", 0, x.reap());
        x.cache(8, 8, 3, 0);
        DUE.is("reap() without slabs", 0, x.reap());
        DUE.is("pages(0)", 256, x.pages(0));
    }

    private static void reapLeavesFullAndPartial() {
        DUE.sentence("reap: All EMPTY SLABS, and no others");
        SlabHouse x = new SlabHouse();
        x.cache(512, 8, 0, 0);
        for (int i = 0; i < 5; i++) {
            x.allocate(0, 0);
        }
        DUE.is("two FULL, one PARTIAL", 0, x.reap());
        DUE.is("slabs", 3, x.about(0, 4));
        x.free(2048, 0);
        x.flush(0);
        DUE.is("one of them is EMPTY now", 1, x.reap());
        DUE.is("slabs", 2, x.about(0, 4));
        DUE.is("once more", 0, x.reap());
        DUE.is("cacheOf(2048)", -1, x.cacheOf(2048));
        DUE.is("cacheOf(1024)", 0, x.cacheOf(1024));
    }

    private static void reapLeavesWhatMagazinesHold() {
        DUE.sentence("reap: a SLAB whose OBJECTS are in magazines is not EMPTY");
        SlabHouse x = withOrders();
        for (int i = 0; i < 9; i++) {
            x.allocate(0, 0);
        }
        for (int i = 0; i < 9; i++) {
            x.free(1024 * i, 2);
        }
        DUE.is("reap() with magazines and depot", 0, x.reap());
        x.flush(2);
        DUE.is("reap() with the depot", 5, x.reap());
        x.empty(0);
        DUE.is("reap() of the rest", 4, x.reap());
        DUE.same("free blocks", WHOLE, free(x));
    }

    private static void reapOfEveryOrder() {
        DUE.sentence("reap: how many PAGES, of each ORDER");
        for (int order = 0; order <= 3; order++) {
            SlabHouse x = withOrders();
            x.free(x.allocate(order, 1), 1);
            x.flush(1);
            DUE.is("list(" + order + ", 2, 0)", 0, x.list(order, 2, 0));
            DUE.is("reap() of order " + order, 1 << order, x.reap());
            DUE.is("list(" + order + ", 2, 0)", -1, x.list(order, 2, 0));
            DUE.same("free blocks", WHOLE, free(x));
        }
    }

    private static void reapOfSeveralSlabs() {
        DUE.sentence("reap: All EMPTY SLABS of all CACHES");
        SlabHouse x = withOrders();
        for (int cache = 0; cache < 3; cache++) {
            int a = x.allocate(cache, 0);
            int b = x.allocate(cache, 0);
            x.free(a, 0);
            x.free(b, 0);
        }
        x.free(x.allocate(3, 0), 0);
        x.flush(0);
        DUE.is("pages(1)", 2 + 4 + 8 + 8, x.pages(1));
        DUE.is("reap()", 22, x.reap());
        DUE.is("pages(1)", 0, x.pages(1));
        for (int cache = 0; cache <= 3; cache++) {
            DUE.is("slabs of cache " + cache, 0, x.about(cache, 4));
        }
        DUE.same("free blocks", WHOLE, free(x));
    }

    private static void reapAfterADrop() {
        DUE.sentence("reap: of a CACHE that is gone there is nothing");
        SlabHouse x = withOrders();
        x.free(x.allocate(1, 0), 0);
        x.flush(0);
        DUE.is("drop(1)", 2, x.drop(1));
        DUE.is("reap()", 0, x.reap());
        DUE.same("free blocks", WHOLE, free(x));
    }

    private static void block() {
        DUE.sentence("block: free BLOCK k, from 0 on, of an ORDER, the lowest first; NONE if there is none such");
        SlabHouse x = new SlabHouse();
        DUE.is("block(6, 3)", 192, x.block(6, 3));
        DUE.is("block(6, 4)", -1, x.block(6, 4));
        DUE.is("block(6, -1)", -1, x.block(6, -1));
        DUE.is("block(6, least)", -1, x.block(6, Integer.MIN_VALUE));
        DUE.is("block(6, greatest)", -1, x.block(6, Integer.MAX_VALUE));
        DUE.is("block(5, 0)", -1, x.block(5, 0));
        DUE.is("block(0, 0)", -1, x.block(0, 0));
        SlabHouse y = withOrders();
        y.allocate(0, 0);
        DUE.is("block(0, 0)", 1, y.block(0, 0));
        DUE.is("block(0, 1)", -1, y.block(0, 1));
        DUE.sentence("block: IllegalArgument: there is no such ORDER");
        for (int order : new int[] {-1, 7, 8, Integer.MIN_VALUE, Integer.MAX_VALUE}) {
            DUE.throwing("block(" + order + ", 0)", IllegalArgumentException.class, () -> x.block(order, 0));
        }
        for (int order = 0; order <= 6; order++) {
            int o = order;
            DUE.same("block(" + o + ", 9)", "-1", Due.outcome(() -> x.block(o, 9)));
        }
    }

    private static void pages() {
        DUE.sentence("pages: free (what = 0), in SLABS (1); NONE for another what");
        SlabHouse x = withOrders();
        for (int what : new int[] {-1, 2, 3, Integer.MIN_VALUE, Integer.MAX_VALUE}) {
            DUE.is("pages(" + what + ")", -1, x.pages(what));
        }
        int held = 0;
        for (int order = 0; order <= 3; order++) {
            x.allocate(order, 0);
            held += 1 << order;
            DUE.is("pages(0) with " + held, 256 - held, x.pages(0));
            DUE.is("pages(1) with " + held, held, x.pages(1));
        }
        x.free(0, 0);
        DUE.is("pages(1), one in a magazine", 15, x.pages(1));
        x.flush(0);
        DUE.is("pages(1), one EMPTY", 15, x.pages(1));
        x.reap();
        DUE.is("pages(1), one given back", 14, x.pages(1));
        DUE.is("pages(0), one given back", 242, x.pages(0));
    }
}

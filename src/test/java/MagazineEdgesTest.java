import java.util.NoSuchElementException;

/**
 * The boundary cases of MAGAZINES, sentence by sentence: ALLOCATING, FREEING, and promises 7 (flush),
 * 8 (empty) and 15 (magazine). Cache 0 has one slab with 128 objects of 64 bytes.
 */
public final class MagazineEdgesTest {
    private static final Due DUE = new Due();

    public static void main(String[] args) {
        emptyAtFirst();
        lastIsTakenFirst();
        eachProcessorHasItsOwn();
        eachCacheHasItsOwn();
        freeingIntoLoaded();
        freeingChangesPlaces();
        freeingSendsToTheDepot();
        freeingWithAFullDepot();
        freeingWithAFullDepotAndRoom();
        freeingChangesPlacesBeforeTheDepot();
        allocatingOfLoaded();
        allocatingChangesPlaces();
        allocatingOfTheDepot();
        allocatingOfTheDepotLeavesPrevious();
        allocatingOfTheDepotForAnother();
        whatTheDepotGaveIsOnePlaceOnly();
        allocatingOfTheSlabs();
        allocatingWithoutAnyObject();
        throughAllAndBack();
        flushOfNothing();
        flushCounts();
        flushOrder();
        flushOrderOfLists();
        flushLeavesTheRest();
        flushOfEveryCache();
        flushProcessors();
        emptyOfNothing();
        emptyCounts();
        emptyOrder();
        emptyOrderOfLists();
        emptyLeavesTheRest();
        emptyCaches();
        magazineWhat();
        magazineProcessors();
        DUE.end();
    }

    /** Objects 0, 64, .. are LIVE, so many of them. */
    private static SlabHouse withLive(int objects) {
        SlabHouse x = new SlabHouse();
        x.cache(64, 8, 3, 0);
        for (int i = 0; i < objects; i++) {
            x.allocate(0, 0);
        }
        return x;
    }

    private static void freeAll(SlabHouse x, int processor, int from, int to) {
        for (int i = from; i < to; i++) {
            x.free(64 * i, processor);
        }
    }

    /** LOADED, PREVIOUS and DEPOT of cache 0. */
    private static String of(SlabHouse x, int processor) {
        return x.magazine(0, processor, 0) + " " + x.magazine(0, processor, 1) + " " + x.magazine(0, processor, 2);
    }

    private static void allocated(SlabHouse x, int processor, int... objects) {
        for (int object : objects) {
            DUE.is("allocate(0, " + processor + ")", 64 * object, x.allocate(0, processor));
        }
    }

    private static void emptyAtFirst() {
        DUE.sentence("two MAGAZINES .. empty at first; a DEPOT");
        SlabHouse x = withLive(0);
        for (int processor = 0; processor < 4; processor++) {
            DUE.same("processor " + processor, "0 0 0", of(x, processor));
        }
        x.allocate(0, 0);
        DUE.same("an object of the slabs does not come through them", "0 0 0", of(x, 0));
    }

    private static void lastIsTakenFirst() {
        DUE.sentence("What comes to a MAGAZINE last is taken first");
        SlabHouse x = withLive(8);
        x.free(64 * 5, 0);
        x.free(64 * 1, 0);
        x.free(64 * 7, 0);
        x.free(64 * 2, 0);
        allocated(x, 0, 2, 7, 1, 5, 8);
    }

    private static void eachProcessorHasItsOwn() {
        DUE.sentence("PROCESSORS 0 .. 3 have for each CACHE two MAGAZINES");
        SlabHouse x = withLive(8);
        for (int processor = 0; processor < 4; processor++) {
            freeAll(x, processor, 2 * processor, 2 * processor + 2);
        }
        for (int processor = 3; processor >= 0; processor--) {
            DUE.same("processor " + processor, "2 0 0", of(x, processor));
            allocated(x, processor, 2 * processor + 1, 2 * processor);
            DUE.same("processor " + processor, "0 0 0", of(x, processor));
        }
        allocated(x, 1, 8);
    }

    private static void eachCacheHasItsOwn() {
        DUE.sentence("PROCESSORS .. have for each CACHE two MAGAZINES; a CACHE has a DEPOT");
        SlabHouse x = withLive(9);
        x.cache(64, 8, 3, 0);
        freeAll(x, 0, 0, 9);
        DUE.same("cache 0", "1 4 1", of(x, 0));
        for (int what = 0; what < 3; what++) {
            DUE.is("cache 1", 0, x.magazine(1, 0, what));
        }
        DUE.is("cache 1's object", 8192, x.allocate(1, 0));
        x.free(8192, 0);
        DUE.is("cache 1", 1, x.magazine(1, 0, 0));
        DUE.same("cache 0", "1 4 1", of(x, 0));
    }

    private static void freeingIntoLoaded() {
        DUE.sentence("FREEING: If LOADED is not full, the OBJECT comes into it");
        SlabHouse x = withLive(5);
        for (int i = 0; i < 4; i++) {
            freeAll(x, 2, i, i + 1);
            DUE.same("the one, and " + i, i + 1 + " 0 0", of(x, 2));
        }
        DUE.is("the slab has none of them", 5, x.slab(0, 2));
    }

    private static void freeingChangesPlaces() {
        DUE.sentence("FREEING: if LOADED is full, but PREVIOUS is not, they change places");
        SlabHouse x = withLive(10);
        freeAll(x, 0, 0, 4);
        DUE.same("full, but nothing is freed yet", "4 0 0", of(x, 0));
        freeAll(x, 0, 4, 5);
        DUE.same("they changed, then one came", "1 4 0", of(x, 0));
        freeAll(x, 0, 5, 8);
        DUE.same("both are full", "4 4 0", of(x, 0));
        allocated(x, 0, 7, 6, 5, 4, 3, 2, 1, 0);
    }

    private static void freeingSendsToTheDepot() {
        DUE.sentence("FREEING: both are full, and the DEPOT has fewer than 3: PREVIOUS goes there, LOADED is PREVIOUS");
        SlabHouse x = withLive(30);
        freeAll(x, 0, 0, 8);
        for (int depot = 1; depot <= 3; depot++) {
            DUE.same("both are full", "4 4 " + (depot - 1), of(x, 0));
            int next = 4 + 4 * depot;
            freeAll(x, 0, next, next + 1);
            DUE.same("PREVIOUS went", "1 4 " + depot, of(x, 0));
            freeAll(x, 0, next + 1, next + 4);
        }
        DUE.same("all is full", "4 4 3", of(x, 0));
        DUE.is("the slab has none of them", 30, x.slab(0, 2));
        allocated(x, 0, 19, 18, 17, 16, 15, 14, 13, 12, 11);
        DUE.same("what was PREVIOUS first is the DEPOT's first", "3 0 2", of(x, 0));
    }

    private static void freeingWithAFullDepot() {
        DUE.sentence("FREEING: If LOADED is not full, the OBJECT comes into it, else it comes back to its SLAB");
        SlabHouse x = withLive(30);
        freeAll(x, 0, 0, 20);
        DUE.same("all is full", "4 4 3", of(x, 0));
        DUE.is("not FREE", 30, x.slab(0, 2));
        freeAll(x, 0, 20, 21);
        DUE.same("all stays as it is", "4 4 3", of(x, 0));
        DUE.is("not FREE", 29, x.slab(0, 2));
        DUE.is("first FREE one", 20, x.slab(0, 3));
        DUE.is("in magazines", 20, x.about(0, 6));
        freeAll(x, 0, 21, 22);
        DUE.is("first FREE one", 21, x.slab(0, 3));
        DUE.throwing("it is not LIVE", NoSuchElementException.class, () -> x.free(64 * 21, 0));
        allocated(x, 0, 19);
    }

    private static void freeingWithAFullDepotAndRoom() {
        DUE.sentence("FREEING: the DEPOT is full, but the MAGAZINES of this PROCESSOR are not");
        SlabHouse x = withLive(30);
        freeAll(x, 0, 0, 20);
        freeAll(x, 1, 20, 28);
        DUE.same("processor 1 has its own two", "4 4 3", of(x, 1));
        DUE.is("not FREE", 30, x.slab(0, 2));
        freeAll(x, 1, 28, 29);
        DUE.is("then the slab", 29, x.slab(0, 2));
        allocated(x, 0, 19);
        DUE.same("processor 0 has room", "3 4 3", of(x, 0));
        freeAll(x, 0, 29, 30);
        DUE.same("and takes one", "4 4 3", of(x, 0));
        DUE.is("not the slab", 29, x.slab(0, 2));
    }

    private static void freeingChangesPlacesBeforeTheDepot() {
        DUE.sentence("FREEING: LOADED is full, but PREVIOUS is not: the DEPOT gets nothing");
        SlabHouse x = withLive(14);
        freeAll(x, 0, 0, 9);
        DUE.same("one in the DEPOT", "1 4 1", of(x, 0));
        allocated(x, 0, 8, 7);
        DUE.same("changed places", "3 0 1", of(x, 0));
        freeAll(x, 0, 9, 10);
        DUE.same("full again", "4 0 1", of(x, 0));
        freeAll(x, 0, 10, 11);
        DUE.same("changed places again", "1 4 1", of(x, 0));
        allocated(x, 0, 10, 9, 6, 5, 4, 3, 2, 1, 0);
    }

    private static void allocatingOfLoaded() {
        DUE.sentence("ALLOCATING: If LOADED has any, its OBJECT is taken");
        SlabHouse x = withLive(6);
        freeAll(x, 0, 0, 5);
        DUE.same("one loaded", "1 4 0", of(x, 0));
        allocated(x, 0, 4);
        DUE.same("the last one is taken, PREVIOUS stays", "0 4 0", of(x, 0));
    }

    private static void allocatingChangesPlaces() {
        DUE.sentence("ALLOCATING: if LOADED is empty, but PREVIOUS is not, they change places");
        SlabHouse x = withLive(6);
        freeAll(x, 0, 0, 5);
        allocated(x, 0, 4, 3);
        DUE.same("changed places", "3 0 0", of(x, 0));
        allocated(x, 0, 2, 1, 0);
        DUE.same("both are empty", "0 0 0", of(x, 0));
    }

    private static void allocatingOfTheDepot() {
        DUE.sentence("ALLOCATING: If both are, and the DEPOT has some, LOADED is the one that came there last");
        SlabHouse x = withLive(20);
        freeAll(x, 0, 0, 20);
        allocated(x, 0, 19, 18, 17, 16, 15, 14, 13, 12);
        DUE.same("both are empty", "0 0 3", of(x, 0));
        allocated(x, 0, 11);
        DUE.same("it is in the DEPOT no more", "3 0 2", of(x, 0));
        allocated(x, 0, 10, 9, 8, 7);
        DUE.same("the one before", "3 0 1", of(x, 0));
        allocated(x, 0, 6, 5, 4, 3);
        DUE.same("the first one", "3 0 0", of(x, 0));
        allocated(x, 0, 2, 1, 0, 20);
        DUE.same("nothing", "0 0 0", of(x, 0));
    }

    private static void allocatingOfTheDepotLeavesPrevious() {
        DUE.sentence("ALLOCATING: If both are (empty): not while PREVIOUS has some");
        SlabHouse x = withLive(9);
        freeAll(x, 0, 0, 9);
        allocated(x, 0, 8);
        DUE.same("LOADED alone is empty", "0 4 1", of(x, 0));
        allocated(x, 0, 7);
        DUE.same("PREVIOUS before the DEPOT", "3 0 1", of(x, 0));
    }

    private static void allocatingOfTheDepotForAnother() {
        DUE.sentence("a CACHE has a DEPOT: for all PROCESSORS");
        SlabHouse x = withLive(9);
        freeAll(x, 0, 0, 9);
        allocated(x, 3, 3);
        DUE.same("processor 3 has it", "3 0 0", of(x, 3));
        DUE.same("processor 0 has it no more", "1 4 0", of(x, 0));
        allocated(x, 2, 9);
    }

    private static void whatTheDepotGaveIsOnePlaceOnly() {
        DUE.sentence("LOADED is the one that came there last (it is in the DEPOT no more)");
        SlabHouse x = withLive(22);
        freeAll(x, 0, 0, 9);
        allocated(x, 1, 3);
        DUE.same("processor 1 has it", "3 0 0", of(x, 1));
        freeAll(x, 0, 9, 13);
        DUE.same("the DEPOT has another one", "1 4 1", of(x, 0));
        DUE.same("which is not processor 1's", "3 0 1", of(x, 1));
        DUE.is("in magazines", 12, x.about(0, 6));
        freeAll(x, 1, 13, 14);
        DUE.same("nor does what processor 1 frees come to it", "4 0 1", of(x, 1));
        DUE.same("processor 0 has its own", "1 4 1", of(x, 0));
        allocated(x, 2, 7, 6, 5, 4, 22);
        allocated(x, 1, 13, 2, 1, 0, 23);
        allocated(x, 0, 12, 11, 10, 9, 8, 24);
    }

    private static void allocatingOfTheSlabs() {
        DUE.sentence("ALLOCATING: If LOADED has any, its OBJECT is taken, else one FROM THE SLABS");
        SlabHouse x = withLive(4);
        freeAll(x, 0, 0, 1);
        allocated(x, 1, 4);
        DUE.same("processor 1 has none", "0 0 0", of(x, 1));
        DUE.same("processor 0's stays", "1 0 0", of(x, 0));
        allocated(x, 0, 0, 5);
    }

    private static void allocatingWithoutAnyObject() {
        DUE.sentence("allocate: NONE if there is no OBJECT: MAGAZINES of this PROCESSOR and the DEPOT go before");
        SlabHouse x = new SlabHouse();
        x.cache(4096, 8, 2, 0);
        for (int i = 0; i < 64; i++) {
            x.allocate(0, 0);
        }
        DUE.is("all memory is LIVE", -1, x.allocate(0, 0));
        for (int i = 0; i < 9; i++) {
            x.free(4096 * i, 0);
        }
        DUE.same("one in the DEPOT", "1 4 1", of(x, 0));
        for (int i = 3; i >= 0; i--) {
            DUE.is("the DEPOT's, for processor 1", 4096 * i, x.allocate(0, 1));
        }
        DUE.is("processor 0's are not for processor 1", -1, x.allocate(0, 1));
        DUE.same("nor do they change", "1 4 0", of(x, 0));
        DUE.is("for processor 0 they are", 4096 * 8, x.allocate(0, 0));
        DUE.is("how often there was none", 2, x.about(0, 7));
    }

    private static void throughAllAndBack() {
        DUE.sentence("a DEPOT of up to 3 full MAGAZINES: filled, emptied and filled anew");
        SlabHouse x = withLive(20);
        for (int round = 0; round < 3; round++) {
            freeAll(x, round, 0, 20);
            DUE.same("all is full", "4 4 3", of(x, round));
            DUE.same("another processor's are not", "0 0 3", of(x, 3));
            DUE.same("nor are the last one's", "0 0 3", of(x, (round + 2) % 3));
            DUE.is("in magazines", 20, x.about(0, 6));
            for (int i = 19; i >= 0; i--) {
                allocated(x, round, i);
            }
            DUE.same("all is empty", "0 0 0", of(x, round));
        }
        DUE.is("no object came of the slabs", 20, x.slab(0, 2));
    }

    private static void flushOfNothing() {
        DUE.sentence("flush: how many OBJECTS: none");
        DUE.is("without caches", 0, new SlabHouse().flush(0));
        SlabHouse x = withLive(3);
        DUE.is("without objects in magazines", 0, x.flush(0));
        DUE.is("LIVE ones stay", 3, x.about(0, 5));
    }

    private static void flushCounts() {
        DUE.sentence("flush: All that the MAGAZINES of a PROCESSOR have comes back: how many OBJECTS");
        for (int objects = 1; objects <= 8; objects++) {
            SlabHouse x = withLive(8);
            freeAll(x, 1, 0, objects);
            DUE.is("flush(1) of " + objects, objects, x.flush(1));
            DUE.same("magazines", "0 0 0", of(x, 1));
            DUE.is("not FREE", 8 - objects, x.slab(0, 2));
            DUE.is("flush(1) again", 0, x.flush(1));
        }
    }

    private static void flushOrder() {
        DUE.sentence("flush: LOADED first, what came last first");
        SlabHouse x = withLive(8);
        freeAll(x, 0, 0, 7);
        DUE.same("magazines", "3 4 0", of(x, 0));
        x.flush(0);
        DUE.is("PREVIOUS' first came back last", 0, x.slab(0, 3));
        allocated(x, 0, 0, 1, 2, 3, 4, 5, 6, 8);
        SlabHouse y = withLive(8);
        freeAll(y, 0, 0, 5);
        allocated(y, 0, 4);
        y.flush(0);
        allocated(y, 0, 0, 1, 2, 3, 8);
    }

    /** Three slabs of two objects each; the pages of those that are PARTIAL or EMPTY, first to last. */
    private static String lists(SlabHouse x) {
        StringBuilder text = new StringBuilder();
        for (int which = 1; which <= 2; which++) {
            text.append(which == 1 ? "P" : " E");
            for (int k = 0; x.list(0, which, k) != -1; k++) {
                text.append(k == 0 ? "" : ",").append(x.list(0, which, k) / 1024);
            }
        }
        return text.toString();
    }

    private static void flushOrderOfLists() {
        DUE.sentence("flush: LOADED first, what came last first: so SLABS come into their lists");
        SlabHouse x = new SlabHouse();
        x.cache(512, 8, 0, 0);
        for (int i = 0; i < 12; i++) {
            x.allocate(0, 0);
        }
        for (int slab = 0; slab < 6; slab++) {
            x.free(1024 * slab, 0);
        }
        DUE.same("magazines", "2 4 0", of(x, 0));
        x.flush(0);
        DUE.same("5, 4, then 3, 2, 1, 0", "P0,1,2,3,4,5 E", lists(x));
    }

    private static void flushLeavesTheRest() {
        DUE.sentence("flush: of a PROCESSOR: not the DEPOT, not another PROCESSOR's");
        SlabHouse x = withLive(20);
        freeAll(x, 0, 0, 9);
        freeAll(x, 1, 9, 15);
        DUE.is("flush(0)", 5, x.flush(0));
        DUE.same("the DEPOT stays", "0 0 1", of(x, 0));
        DUE.same("processor 1's stay", "2 4 1", of(x, 1));
        DUE.is("in magazines", 10, x.about(0, 6));
        allocated(x, 0, 3);
    }

    private static void flushOfEveryCache() {
        DUE.sentence("flush: CACHE by CACHE");
        SlabHouse x = new SlabHouse();
        for (int c = 0; c < 8; c++) {
            x.cache(64, 8, 0, 0);
            for (int i = 0; i <= c; i++) {
                x.allocate(c, 0);
            }
            for (int i = 0; i <= c; i++) {
                x.free(1024 * c + 64 * i, 2);
            }
        }
        x.drop(3);
        DUE.is("flush(2) of 1 + 2 + 3 + 5 + 6 + 7 + 8", 32, x.flush(2));
        for (int c = 0; c < 8; c++) {
            if (c != 3) {
                DUE.is("cache " + c + " is EMPTY", 1024 * c, x.list(c, 2, 0));
                DUE.is("cache " + c + " has none in magazines", 0, x.about(c, 6));
            }
        }
    }

    private static void flushProcessors() {
        DUE.sentence("flush: IllegalArgument: there is no such PROCESSOR");
        SlabHouse x = withLive(1);
        for (int processor = 0; processor < 4; processor++) {
            int p = processor;
            DUE.same("flush(" + p + ")", "0", Due.outcome(() -> x.flush(p)));
        }
        for (int p : new int[] {-1, 4, Integer.MIN_VALUE, Integer.MAX_VALUE}) {
            DUE.throwing("flush(" + p + ")", IllegalArgumentException.class, () -> x.flush(p));
            DUE.throwing("flush(" + p + ") of nothing", IllegalArgumentException.class, () -> new SlabHouse().flush(p));
        }
    }

    private static void emptyOfNothing() {
        DUE.sentence("empty: how many OBJECTS: none");
        SlabHouse x = withLive(8);
        DUE.is("without magazines in the DEPOT", 0, x.empty(0));
        freeAll(x, 0, 0, 8);
        DUE.is("full magazines of a processor are not the DEPOT's", 0, x.empty(0));
        DUE.same("they stay", "4 4 0", of(x, 0));
    }

    private static void emptyCounts() {
        DUE.sentence("empty: All MAGAZINES of the DEPOT of a CACHE are emptied into its SLABS: how many OBJECTS");
        for (int depot = 1; depot <= 3; depot++) {
            SlabHouse x = withLive(20);
            freeAll(x, 0, 0, 5 + 4 * depot);
            DUE.same("magazines", "1 4 " + depot, of(x, 0));
            DUE.is("empty(0)", 4 * depot, x.empty(0));
            DUE.same("magazines", "1 4 0", of(x, 0));
            DUE.is("not FREE", 20 - 4 * depot, x.slab(0, 2));
            DUE.is("in magazines", 5, x.about(0, 6));
            DUE.is("empty(0) again", 0, x.empty(0));
        }
    }

    private static void emptyOrder() {
        DUE.sentence("empty: the one that came last first, what came last first");
        SlabHouse x = withLive(20);
        freeAll(x, 0, 0, 20);
        DUE.is("empty(0)", 12, x.empty(0));
        DUE.is("the first of the first came back last", 0, x.slab(0, 3));
        allocated(x, 1, 0, 1, 2, 3, 4, 5, 6, 7, 8, 9, 10, 11, 20);
    }

    private static void emptyOrderOfLists() {
        DUE.sentence("empty: the one that came last first: so SLABS come into their lists");
        SlabHouse x = new SlabHouse();
        x.cache(512, 8, 0, 0);
        for (int i = 0; i < 26; i++) {
            x.allocate(0, 0);
        }
        for (int slab = 0; slab < 13; slab++) {
            x.free(1024 * slab, 0);
        }
        DUE.same("magazines", "1 4 2", of(x, 0));
        DUE.is("empty(0)", 8, x.empty(0));
        DUE.same("7, 6, 5, 4, then 3, 2, 1, 0", "P0,1,2,3,4,5,6,7 E", lists(x));
    }

    private static void emptyLeavesTheRest() {
        DUE.sentence("empty: of the DEPOT of a CACHE: not another CACHE's");
        SlabHouse x = withLive(9);
        x.cache(64, 8, 3, 0);
        for (int i = 0; i < 9; i++) {
            x.allocate(1, 0);
        }
        freeAll(x, 0, 0, 9);
        freeAll(x, 0, 128, 137);
        DUE.is("one in each DEPOT", 1, x.magazine(1, 0, 2));
        DUE.is("empty(1)", 4, x.empty(1));
        DUE.is("cache 1's DEPOT", 0, x.magazine(1, 0, 2));
        DUE.same("cache 0's DEPOT", "1 4 1", of(x, 0));
        DUE.is("cache 0's slab", 9, x.slab(0, 2));
    }

    private static void emptyCaches() {
        DUE.sentence("empty: NoSuchElement");
        SlabHouse x = withLive(1);
        x.cache(64, 8, 0, 0);
        x.drop(1);
        for (int c : new int[] {-1, 1, 2, 7, 8, Integer.MIN_VALUE, Integer.MAX_VALUE}) {
            DUE.throwing("empty(" + c + ")", NoSuchElementException.class, () -> x.empty(c));
        }
    }

    private static void magazineWhat() {
        DUE.sentence("magazine: LOADED (0) or PREVIOUS (1) .., or in the DEPOT how many MAGAZINES (2); another what");
        SlabHouse x = withLive(16);
        freeAll(x, 0, 0, 15);
        DUE.is("LOADED", 3, x.magazine(0, 0, 0));
        DUE.is("PREVIOUS", 4, x.magazine(0, 0, 1));
        DUE.is("DEPOT: magazines, not objects", 2, x.magazine(0, 0, 2));
        DUE.is("the same DEPOT for processor 3", 2, x.magazine(0, 3, 2));
        for (int what : new int[] {-1, 3, Integer.MIN_VALUE, Integer.MAX_VALUE}) {
            DUE.throwing("magazine(0, 0, " + what + ")", IllegalArgumentException.class, () -> x.magazine(0, 0, what));
            DUE.throwing("magazine(1, 0, " + what + ")", NoSuchElementException.class, () -> x.magazine(1, 0, what));
        }
    }

    private static void magazineProcessors() {
        DUE.sentence("magazine: NoSuchElement. IllegalArgument: there is no such PROCESSOR");
        SlabHouse x = withLive(1);
        for (int processor = 0; processor < 4; processor++) {
            DUE.same("processor " + processor, "0 0 0", of(x, processor));
        }
        for (int p : new int[] {-1, 4, Integer.MIN_VALUE, Integer.MAX_VALUE}) {
            for (int what = -1; what <= 3; what++) {
                int w = what;
                DUE.throwing("magazine(0, " + p + ", " + w + ")", IllegalArgumentException.class,
                        () -> x.magazine(0, p, w));
                DUE.throwing("magazine(1, " + p + ", " + w + ")", NoSuchElementException.class,
                        () -> x.magazine(1, p, w));
            }
        }
        for (int c : new int[] {-1, 1, 8, Integer.MIN_VALUE, Integer.MAX_VALUE}) {
            DUE.throwing("magazine(" + c + ", 0, 0)", NoSuchElementException.class, () -> x.magazine(c, 0, 0));
        }
    }
}

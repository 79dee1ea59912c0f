import java.util.NoSuchElementException;

/**
 * The boundary cases of SLABS, sentence by sentence: MARKS, the row of FREE objects, FULL, PARTIAL and
 * EMPTY, the lists, FROM THE SLABS, and promises 13 (list) and 14 (slab).
 */
public final class SlabEdgesTest {
    private static final Due DUE = new Due();

    public static void main(String[] args) {
        everyObjectGetsTheTag();
        anotherCachesSlabGetsItsTag();
        theRowAtFirst();
        theFirstOneIsTaken();
        oneThatComesBackIsFirst();
        fullPartialEmpty();
        magazinesAreNotFree();
        oneObjectIsNeverPartial();
        fullBecomesPartial();
        partialBecomesEmpty();
        emptyBecomesPartial();
        partialBecomesFull();
        fullBecomesEmpty();
        emptyBecomesFull();
        whatStaysPartialStays();
        takenOfTheFirstPartial();
        takenOfTheFirstEmpty();
        takenOfANewOne();
        othersEmptySlabsStayWhileThereAreBlocks();
        othersEmptySlabsGoWhenThereIsNoBlock();
        allEmptySlabsGoNotOnlyEnough();
        emptySlabsGoInVain();
        noObjectWithoutEmptySlabs();
        listEnds();
        listOfEachKind();
        slabBounds();
        slabWhat();
        slabFirstFree();
        DUE.end();
    }

    private static SlabHouse with(int size, int order) {
        SlabHouse x = new SlabHouse();
        x.cache(size, 8, order, 7);
        return x;
    }

    /** A cache of slabs of one page with so many objects each, and slabs that are FULL. */
    private static SlabHouse fullSlabs(int slabs, int objects) {
        SlabHouse x = with(1024 / objects, 0);
        for (int i = 0; i < slabs * objects; i++) {
            x.allocate(0, 0);
        }
        return x;
    }

    private static void giveToSlab(SlabHouse x, int... addresses) {
        for (int address : addresses) {
            x.free(address, 3);
            x.flush(3);
        }
    }

    /** The pages of cache 0's FULL, PARTIAL and EMPTY slabs, as list tells them. */
    private static String lists(SlabHouse x) {
        StringBuilder text = new StringBuilder();
        for (int which = 0; which < 3; which++) {
            text.append("FPE".charAt(which));
            int k = 0;
            for (int begin = x.list(0, which, 0); begin != -1; begin = x.list(0, which, k)) {
                text.append(k == 0 ? "" : ",").append(begin / 1024);
                k++;
            }
            text.append(which < 2 ? " " : "");
        }
        return text.toString();
    }

    private static void everyObjectGetsTheTag() {
        DUE.sentence("When a SLAB is made, each OBJECT in it gets the TAG as its MARK");
        SlabHouse x = with(8, 0);
        for (int i = 0; i < 129; i++) {
            int a = x.allocate(0, 0);
            DUE.is("the mark of object " + i, 7, x.mark(a, 8));
            DUE.is("and then", 8, x.mark(a, 7));
        }
    }

    private static void anotherCachesSlabGetsItsTag() {
        DUE.sentence("When a SLAB is made, each OBJECT in it gets the TAG: its CACHE's, where another's was");
        SlabHouse x = with(512, 0);
        x.cache(512, 8, 0, 9);
        giveToSlab(x, x.allocate(0, 0));
        x.reap();
        DUE.is("the same page", 0, x.allocate(1, 0));
        DUE.is("the other tag", 9, x.mark(0, 9));
        DUE.is("and of the next object", 9, x.mark(x.allocate(1, 0), 9));
        x.free(0, 0);
        x.free(512, 0);
        x.flush(0);
        x.reap();
        DUE.is("the same page", 0, x.allocate(0, 0));
        DUE.is("the first tag again", 7, x.mark(0, 7));
    }

    private static void theRowAtFirst() {
        DUE.sentence("A SLAB has them in a row of FREE ones, 0, 1, .. at first");
        SlabHouse x = with(8, 0);
        for (int i = 0; i < 128; i++) {
            DUE.is("object " + i, 8 * i, x.allocate(0, 0));
            DUE.is("first FREE one", i == 127 ? -1 : i + 1, x.slab(0, 3));
        }
        DUE.is("the next slab's object 0", 1024, x.allocate(0, 0));
    }

    private static void theFirstOneIsTaken() {
        DUE.sentence("the first one is taken");
        SlabHouse x = fullSlabs(1, 4);
        giveToSlab(x, 256, 768, 0);
        DUE.is("first FREE one", 0, x.slab(0, 3));
        DUE.is("allocate", 0, x.allocate(0, 0));
        DUE.is("first FREE one", 3, x.slab(0, 3));
        DUE.is("allocate", 768, x.allocate(0, 0));
        DUE.is("first FREE one", 1, x.slab(0, 3));
        DUE.is("allocate", 256, x.allocate(0, 0));
        DUE.is("first FREE one", -1, x.slab(0, 3));
    }

    private static void oneThatComesBackIsFirst() {
        DUE.sentence("one that comes back is first then");
        SlabHouse x = with(128, 0);
        x.allocate(0, 0);
        x.allocate(0, 0);
        DUE.is("before those never taken: 2 is first", 2, x.slab(0, 3));
        giveToSlab(x, 0);
        DUE.is("0 is first", 0, x.slab(0, 3));
        giveToSlab(x, 128);
        DUE.is("1 is first", 1, x.slab(0, 3));
        DUE.is("allocate", 128, x.allocate(0, 0));
        DUE.is("allocate", 0, x.allocate(0, 0));
        DUE.is("allocate", 256, x.allocate(0, 0));
    }

    private static void fullPartialEmpty() {
        DUE.sentence("It is FULL with none FREE, EMPTY with all, else PARTIAL");
        SlabHouse x = with(256, 0);
        DUE.same("no slab", "F P E", lists(x));
        String[] taking = {"F P0 E", "F P0 E", "F P0 E", "F0 P E"};
        for (int i = 0; i < 4; i++) {
            x.allocate(0, 0);
            DUE.same("with " + (i + 1) + " taken", taking[i], lists(x));
            DUE.is("slab(0, 2)", i + 1, x.slab(0, 2));
        }
        String[] giving = {"F P0 E", "F P0 E", "F P0 E", "F P E0"};
        for (int i = 0; i < 4; i++) {
            giveToSlab(x, 256 * i);
            DUE.same("with " + (i + 1) + " back", giving[i], lists(x));
            DUE.is("slab(0, 2)", 3 - i, x.slab(0, 2));
        }
    }

    private static void magazinesAreNotFree() {
        DUE.sentence("OBJECTS are LIVE, in a magazine, or FREE: those in a magazine are not FREE");
        SlabHouse x = fullSlabs(1, 4);
        for (int i = 0; i < 4; i++) {
            x.free(256 * i, 1);
            DUE.same("with " + (i + 1) + " in a magazine", "F0 P E", lists(x));
            DUE.is("slab(0, 2)", 4, x.slab(0, 2));
            DUE.is("slab(0, 3)", -1, x.slab(0, 3));
            DUE.is("objectOf", -1, x.objectOf(256 * i));
        }
        DUE.is("another processor's object comes of a new slab", 1024, x.allocate(0, 0));
        x.flush(1);
        DUE.same("all came back", "F P1 E0", lists(x));
    }

    private static void oneObjectIsNeverPartial() {
        DUE.sentence("FULL with none FREE, EMPTY with all: a SLAB of one OBJECT");
        SlabHouse x = with(1024, 0);
        x.allocate(0, 0);
        DUE.same("taken", "F0 P E", lists(x));
        giveToSlab(x, 0);
        DUE.same("back", "F P E0", lists(x));
        x.allocate(0, 0);
        DUE.same("taken again", "F0 P E", lists(x));
    }

    private static void fullBecomesPartial() {
        DUE.sentence("A SLAB that changes comes first into its list: FULL, then PARTIAL");
        SlabHouse x = fullSlabs(4, 4);
        DUE.same("the last that was filled is first", "F3,2,1,0 P E", lists(x));
        giveToSlab(x, 1024);
        DUE.same("one", "F3,2,0 P1 E", lists(x));
        giveToSlab(x, 3072);
        DUE.same("the first of FULL", "F2,0 P3,1 E", lists(x));
        giveToSlab(x, 0);
        DUE.same("the last of FULL", "F2 P0,3,1 E", lists(x));
        giveToSlab(x, 2048);
        DUE.same("the only one", "F P2,0,3,1 E", lists(x));
    }

    private static void partialBecomesEmpty() {
        DUE.sentence("A SLAB that changes comes first into its list: PARTIAL, then EMPTY");
        SlabHouse x = fullSlabs(4, 2);
        giveToSlab(x, 0, 1024, 2048, 3072);
        DUE.same("PARTIAL", "F P3,2,1,0 E", lists(x));
        giveToSlab(x, 1536);
        DUE.same("one", "F P3,2,0 E1", lists(x));
        giveToSlab(x, 3584);
        DUE.same("the first of PARTIAL", "F P2,0 E3,1", lists(x));
        giveToSlab(x, 512);
        DUE.same("the last of PARTIAL", "F P2 E0,3,1", lists(x));
        giveToSlab(x, 2560);
        DUE.same("the only one", "F P E2,0,3,1", lists(x));
    }

    private static void emptyBecomesPartial() {
        DUE.sentence("A SLAB that changes comes first into its list: EMPTY, then PARTIAL");
        SlabHouse x = fullSlabs(2, 2);
        giveToSlab(x, 0, 1024, 512, 1536);
        DUE.same("EMPTY", "F P E1,0", lists(x));
        DUE.is("allocate", 1536, x.allocate(0, 0));
        DUE.same("one is PARTIAL", "F P1 E0", lists(x));
    }

    private static void partialBecomesFull() {
        DUE.sentence("A SLAB that changes comes first into its list: PARTIAL, then FULL");
        SlabHouse x = fullSlabs(3, 2);
        giveToSlab(x, 0, 2048, 1024);
        DUE.same("PARTIAL", "F P1,2,0 E", lists(x));
        x.allocate(0, 0);
        DUE.same("one", "F1 P2,0 E", lists(x));
        x.allocate(0, 0);
        DUE.same("two", "F2,1 P0 E", lists(x));
        x.allocate(0, 0);
        DUE.same("three", "F0,2,1 P E", lists(x));
    }

    private static void fullBecomesEmpty() {
        DUE.sentence("A SLAB that changes comes first into its list: FULL, then EMPTY");
        SlabHouse x = fullSlabs(3, 1);
        DUE.same("FULL", "F2,1,0 P E", lists(x));
        giveToSlab(x, 1024);
        DUE.same("one", "F2,0 P E1", lists(x));
        giveToSlab(x, 0);
        DUE.same("two", "F2 P E0,1", lists(x));
        giveToSlab(x, 2048);
        DUE.same("three", "F P E2,0,1", lists(x));
    }

    private static void emptyBecomesFull() {
        DUE.sentence("A SLAB that changes comes first into its list: EMPTY, then FULL");
        SlabHouse x = fullSlabs(3, 1);
        giveToSlab(x, 1024, 0, 2048);
        DUE.is("allocate", 2048, x.allocate(0, 0));
        DUE.same("one", "F2 P E0,1", lists(x));
        DUE.is("allocate", 0, x.allocate(0, 0));
        DUE.same("two", "F0,2 P E1", lists(x));
        DUE.is("allocate", 1024, x.allocate(0, 0));
        DUE.same("three", "F1,0,2 P E", lists(x));
    }

    private static void whatStaysPartialStays() {
        DUE.sentence("A SLAB that changes comes first into its list: one that stays PARTIAL is in it already");
        SlabHouse x = fullSlabs(2, 4);
        giveToSlab(x, 0, 1024);
        DUE.same("two PARTIAL", "F P1,0 E", lists(x));
        giveToSlab(x, 256);
        DUE.same("one more is back", "F P1,0 E", lists(x));
        x.free(512, 3);
        x.flush(3);
        DUE.same("and one more", "F P1,0 E", lists(x));
    }

    private static void takenOfTheFirstPartial() {
        DUE.sentence("FROM THE SLABS an OBJECT comes of the first PARTIAL one");
        SlabHouse x = fullSlabs(3, 2);
        giveToSlab(x, 2048, 2560, 512, 1024);
        DUE.same("two PARTIAL, one EMPTY", "F P1,0 E2", lists(x));
        DUE.is("the first PARTIAL one, not the lowest, not the EMPTY one", 1024, x.allocate(0, 0));
        DUE.is("the next PARTIAL one", 512, x.allocate(0, 0));
        DUE.is("pages(1)", 3, x.pages(1));
    }

    private static void takenOfTheFirstEmpty() {
        DUE.sentence("FROM THE SLABS: without any, of the first EMPTY one");
        SlabHouse x = fullSlabs(3, 2);
        giveToSlab(x, 0, 512, 1024, 1536);
        DUE.same("two EMPTY", "F2 P E1,0", lists(x));
        DUE.is("the first EMPTY one, not the lowest, not a new one", 1536, x.allocate(0, 0));
        DUE.is("PARTIAL now, so before the other EMPTY one", 1024, x.allocate(0, 0));
        DUE.is("then the other EMPTY one", 512, x.allocate(0, 0));
        DUE.is("slabs", 3, x.about(0, 4));
    }

    private static void takenOfANewOne() {
        DUE.sentence("FROM THE SLABS: without any, of a new SLAB");
        SlabHouse x = with(512, 0);
        DUE.is("the first", 0, x.allocate(0, 0));
        DUE.same("PARTIAL at once", "F P0 E", lists(x));
        x.allocate(0, 0);
        DUE.is("slabs", 1, x.about(0, 4));
        DUE.is("all are FULL", 1024, x.allocate(0, 0));
        DUE.is("slabs", 2, x.about(0, 4));
    }

    private static void othersEmptySlabsStayWhileThereAreBlocks() {
        DUE.sentence("If there is no BLOCK for that, all EMPTY SLABS .. are given back: not before");
        SlabHouse x = with(4096, 2);
        x.cache(1024, 8, 0, 0);
        giveToSlab(x, x.allocate(0, 0));
        for (int page = 4; page < 256; page++) {
            DUE.is("a free page first", 1024 * page, x.allocate(1, 0));
        }
        DUE.is("the last one is taken, the EMPTY slab is there", 0, x.list(0, 2, 0));
        DUE.is("pages(0)", 0, x.pages(0));
        DUE.is("now it goes", 0, x.allocate(1, 0));
        DUE.is("no EMPTY slab", -1, x.list(0, 2, 0));
        DUE.is("its other pages", 3, x.pages(0));
    }

    /** No page is free: caches 1 and 2 have a slab of four pages at 0 and 4, cache 0 all behind, eight pages each. */
    private static SlabHouse crowded() {
        SlabHouse x = new SlabHouse();
        x.cache(4096, 8, 3, 0);
        x.cache(2048, 8, 2, 0);
        x.cache(2048, 8, 2, 0);
        x.allocate(1, 0);
        x.allocate(2, 0);
        for (int i = 0; i < 62; i++) {
            x.allocate(0, 0);
        }
        return x;
    }

    private static void othersEmptySlabsGoWhenThereIsNoBlock() {
        DUE.sentence("all EMPTY SLABS of all CACHES are given back first: two CACHES' make one BLOCK");
        SlabHouse x = crowded();
        DUE.is("pages(0)", 0, x.pages(0));
        giveToSlab(x, 0);
        giveToSlab(x, 4096);
        DUE.is("EMPTY of cache 1", 0, x.list(1, 2, 0));
        DUE.is("EMPTY of cache 2", 4096, x.list(2, 2, 0));
        DUE.is("a slab of eight pages", 0, x.allocate(0, 0));
        DUE.is("slabs of cache 1", 0, x.about(1, 4));
        DUE.is("slabs of cache 2", 0, x.about(2, 4));
        DUE.is("slabs of cache 0", 32, x.about(0, 4));
        DUE.is("there always was an object", 0, x.about(0, 7));
    }

    private static void allEmptySlabsGoNotOnlyEnough() {
        DUE.sentence("all EMPTY SLABS of all CACHES are given back first: all, though one would do");
        SlabHouse x = crowded();
        x.cache(1024, 8, 0, 0);
        giveToSlab(x, 0);
        giveToSlab(x, 4096);
        giveToSlab(x, 8192, 12288);
        DUE.is("EMPTY of cache 0", 8192, x.list(0, 2, 0));
        DUE.is("one page", 0, x.allocate(3, 0));
        DUE.is("EMPTY of cache 0", -1, x.list(0, 2, 0));
        DUE.is("EMPTY of cache 1", -1, x.list(1, 2, 0));
        DUE.is("EMPTY of cache 2", -1, x.list(2, 2, 0));
        DUE.is("pages(0)", 15, x.pages(0));
        DUE.is("block(3, 0)", 8, x.block(3, 0));
    }

    private static void emptySlabsGoInVain() {
        DUE.sentence("if there is none still, there is no OBJECT");
        SlabHouse x = crowded();
        giveToSlab(x, 0);
        int next = x.about(0, 3);
        DUE.is("four pages do not do", -1, x.allocate(0, 0));
        DUE.is("once", 1, x.about(0, 7));
        DUE.is("but the EMPTY slab is gone", 0, x.about(1, 4));
        DUE.is("cacheOf(0)", -1, x.cacheOf(0));
        DUE.is("block(2, 0)", 0, x.block(2, 0));
        DUE.is("the next COLOUR is as it was", next, x.about(0, 3));
        DUE.is("LIVE ones are as they were", 62, x.about(0, 5));
        DUE.is("slabs are as they were", 31, x.about(0, 4));
        x.free(4096, 1);
        DUE.is("a magazine's slab does not go", -1, x.allocate(0, 0));
        DUE.is("twice", 2, x.about(0, 7));
        DUE.is("it is there", 1, x.about(2, 4));
    }

    private static void noObjectWithoutEmptySlabs() {
        DUE.sentence("there is no OBJECT: nothing is EMPTY");
        SlabHouse x = crowded();
        DUE.is("cache 1 has an object still", 2048, x.allocate(1, 0));
        DUE.is("then none", -1, x.allocate(1, 0));
        DUE.is("cache 0 has none", -1, x.allocate(0, 0));
        DUE.is("cache 2's PARTIAL slab stays", 4096, x.list(2, 1, 0));
        DUE.is("pages(1)", 256, x.pages(1));
    }

    private static void listEnds() {
        DUE.sentence("list: SLAB k, from 0 on; NONE if there is none such");
        SlabHouse x = fullSlabs(3, 2);
        DUE.is("list(0, 0, 0)", 2048, x.list(0, 0, 0));
        DUE.is("list(0, 0, 2)", 0, x.list(0, 0, 2));
        DUE.is("list(0, 0, 3)", -1, x.list(0, 0, 3));
        DUE.is("list(0, 0, -1)", -1, x.list(0, 0, -1));
        DUE.is("list(0, 0, least)", -1, x.list(0, 0, Integer.MIN_VALUE));
        DUE.is("list(0, 0, greatest)", -1, x.list(0, 0, Integer.MAX_VALUE));
        DUE.is("list(0, 1, 0) of an empty list", -1, x.list(0, 1, 0));
        DUE.is("list(0, 2, 0) of an empty list", -1, x.list(0, 2, 0));
    }

    private static void listOfEachKind() {
        DUE.sentence("list: which = 0 FULL, 1 PARTIAL, 2 EMPTY. IllegalArgument: another which");
        SlabHouse x = fullSlabs(3, 2);
        giveToSlab(x, 1024, 2048, 2560);
        DUE.is("FULL", 0, x.list(0, 0, 0));
        DUE.is("PARTIAL", 1024, x.list(0, 1, 0));
        DUE.is("EMPTY", 2048, x.list(0, 2, 0));
        for (int which : new int[] {-1, 3, Integer.MIN_VALUE, Integer.MAX_VALUE}) {
            DUE.throwing("list(0, " + which + ", 0)", IllegalArgumentException.class, () -> x.list(0, which, 0));
            DUE.throwing("list(1, " + which + ", 0)", NoSuchElementException.class, () -> x.list(1, which, 0));
        }
    }

    private static void slabBounds() {
        DUE.sentence("slab: Of the SLAB in which an ADDRESS lies. NoSuchElement: there is none");
        for (int order = 0; order <= 3; order++) {
            SlabHouse x = with(1000, order);
            x.allocate(0, 0);
            int end = 1024 << order;
            DUE.is("the first byte", 0, x.slab(0, 0));
            DUE.is("the last byte", 0, x.slab(end - 1, 0));
            DUE.throwing("one behind it", NoSuchElementException.class, () -> x.slab(end, 0));
            DUE.throwing("one before it", NoSuchElementException.class, () -> x.slab(-1, 0));
            giveToSlab(x, 0);
            DUE.is("an EMPTY one is one", 0, x.slab(end - 1, 0));
            x.reap();
            DUE.throwing("one given back is none", NoSuchElementException.class, () -> x.slab(0, 0));
            DUE.throwing("one given back is none", NoSuchElementException.class, () -> x.slab(end - 1, 0));
        }
    }

    private static void slabWhat() {
        DUE.sentence("slab: what = 0 .. 3. IllegalArgument: another what");
        SlabHouse x = with(1000, 0);
        x.allocate(0, 0);
        x.allocate(0, 0);
        DUE.is("its first byte", 1024, x.slab(2047, 0));
        DUE.is("its COLOUR", 1, x.slab(1024, 1));
        DUE.is("not FREE", 1, x.slab(1024, 2));
        DUE.is("first FREE one", -1, x.slab(1024, 3));
        for (int what : new int[] {-1, 4, Integer.MIN_VALUE, Integer.MAX_VALUE}) {
            DUE.throwing("slab(0, " + what + ")", IllegalArgumentException.class, () -> x.slab(0, what));
            DUE.throwing("slab(2048, " + what + ")", NoSuchElementException.class, () -> x.slab(2048, what));
        }
    }

    private static void slabFirstFree() {
        DUE.sentence("slab: 2 how many OBJECTS are not FREE, 3 the number of its first FREE OBJECT (NONE without one)");
        SlabHouse x = fullSlabs(1, 2);
        DUE.is("FULL: not FREE", 2, x.slab(0, 2));
        DUE.is("FULL: first FREE one", -1, x.slab(0, 3));
        giveToSlab(x, 512);
        DUE.is("PARTIAL: not FREE", 1, x.slab(0, 2));
        DUE.is("PARTIAL: first FREE one", 1, x.slab(0, 3));
        giveToSlab(x, 0);
        DUE.is("EMPTY: not FREE", 0, x.slab(0, 2));
        DUE.is("EMPTY: first FREE one", 0, x.slab(0, 3));
    }
}

import java.util.NoSuchElementException;

/**
 * The boundary cases of CACHES, sentence by sentence: SIZE, ALIGN, ORDER, STRIDE, SPARE bytes, COLOURS,
 * and promises 2 (cache), 3 (drop) and 12 (about).
 */
public final class CacheEdgesTest {
    private static final Due DUE = new Due();

    public static void main(String[] args) {
        size();
        align();
        order();
        tag();
        noObject();
        numbers();
        noneBehindEight();
        stride();
        objectsOfASlab();
        howManyColours();
        coloursWrapAround();
        oneColourStays();
        theLastColourStillFits();
        coloursGoOn();
        coloursWaitForASlab();
        coloursAreOfEachCache();
        objectsBegin();
        dropOfNothing();
        dropOfEverySlab();
        dropWithMagazines();
        dropWithLiveObjects();
        dropLeavesOthers();
        droppedIsGone();
        droppedNumberIsNotToldAgain();
        aboutWhat();
        aboutSlabs();
        aboutLive();
        aboutMagazines();
        aboutNoObject();
        DUE.end();
    }

    private static void told(int size, int align, int order) {
        DUE.same("cache(" + size + ", " + align + ", " + order + ", 0)", "0",
                Due.outcome(() -> new SlabHouse().cache(size, align, order, 0)));
    }

    private static void refused(int size, int align, int order) {
        DUE.throwing("cache(" + size + ", " + align + ", " + order + ", 0)", IllegalArgumentException.class,
                () -> new SlabHouse().cache(size, align, order, 0));
    }

    private static SlabHouse with(int size, int align, int order) {
        SlabHouse x = new SlabHouse();
        x.cache(size, align, order, 0);
        return x;
    }

    private static void giveToSlab(SlabHouse x, int address) {
        x.free(address, 3);
        x.flush(3);
    }

    private static void size() {
        DUE.sentence("a SIZE (8 .. 4096 bytes, a multiple of 8)");
        for (int size : new int[] {8, 16, 24, 4080, 4088, 4096}) {
            told(size, 8, 3);
        }
        for (int size : new int[] {0, 1, 4, 7, 9, 15, 17, 4095, 4097, 4100, 4104, 8192, -8, -4096,
            Integer.MIN_VALUE, Integer.MAX_VALUE, Integer.MAX_VALUE - 7}) {
            refused(size, 8, 3);
        }
    }

    private static void align() {
        DUE.sentence("an ALIGN (8, 16, 32 or 64)");
        for (int align = -70; align <= 140; align++) {
            if (align == 8 || align == 16 || align == 32 || align == 64) {
                told(8, align, 0);
            } else {
                refused(8, align, 0);
            }
        }
        refused(8, Integer.MIN_VALUE, 0);
        refused(8, Integer.MAX_VALUE, 0);
    }

    private static void order() {
        DUE.sentence("an ORDER (0 .. 3)");
        for (int order = 0; order <= 3; order++) {
            told(8, 8, order);
        }
        for (int order : new int[] {-1, 4, 5, 6, 7, 31, 32, Integer.MIN_VALUE, Integer.MAX_VALUE}) {
            refused(8, 8, order);
        }
    }

    private static void tag() {
        DUE.sentence("and a TAG");
        for (int tag : new int[] {0, 1, -1, Integer.MIN_VALUE, Integer.MAX_VALUE}) {
            SlabHouse x = new SlabHouse();
            DUE.is("cache(8, 8, 0, " + tag + ")", 0, x.cache(8, 8, 0, tag));
            int a = x.allocate(0, 0);
            DUE.is("mark", tag, x.mark(a, 17));
            DUE.throwing("free with another mark", IllegalStateException.class, () -> x.free(a, 0));
            DUE.is("mark", 17, x.mark(a, tag));
            DUE.is("free with the tag", 0, x.free(a, 0));
        }
    }

    private static void noObject() {
        DUE.sentence("cache: IllegalArgument: .. or a SLAB would have no OBJECT");
        int[] aligns = {8, 16, 32, 64};
        for (int order = 0; order <= 2; order++) {
            int bytes = 1024 << order;
            for (int align : aligns) {
                told(bytes, align, order);
                told(bytes - 8, align, order);
                told(bytes - align + 8, align, order);
                if (bytes < 4096) {
                    refused(bytes + 8, align, order);
                    refused(bytes + align, align, order);
                }
            }
        }
        refused(4096, 8, 0);
        refused(4096, 8, 1);
        told(4096, 8, 2);
        told(4096, 64, 3);
    }

    private static void numbers() {
        DUE.sentence("CACHES are 0 .. 7, in the order in which they are told");
        SlabHouse x = new SlabHouse();
        for (int number = 0; number < 8; number++) {
            DUE.is("the next", number, x.cache(8 + 8 * number, 8, 0, 0));
            DUE.throwing("a wrong one between", IllegalArgumentException.class, () -> x.cache(9, 8, 0, 0));
        }
        for (int number = 0; number < 8; number++) {
            DUE.is("STRIDE of " + number, 8 + 8 * number, x.about(number, 0));
        }
    }

    private static void noneBehindEight() {
        DUE.sentence("cache: NONE if eight were told. IllegalArgument (before NONE)");
        SlabHouse x = new SlabHouse();
        for (int number = 0; number < 7; number++) {
            x.cache(8, 8, 0, 0);
        }
        DUE.is("the eighth", 7, x.cache(8, 8, 0, 0));
        DUE.is("the ninth", -1, x.cache(8, 8, 0, 0));
        DUE.is("the tenth", -1, x.cache(4096, 64, 3, 0));
        DUE.throwing("a wrong size", IllegalArgumentException.class, () -> x.cache(7, 8, 0, 0));
        DUE.throwing("a wrong align", IllegalArgumentException.class, () -> x.cache(8, 7, 0, 0));
        DUE.throwing("a wrong order", IllegalArgumentException.class, () -> x.cache(8, 8, 4, 0));
        DUE.throwing("no object", IllegalArgumentException.class, () -> x.cache(1032, 8, 0, 0));
        DUE.throwing("there is no cache 8", NoSuchElementException.class, () -> x.about(8, 0));
        for (int number = 0; number < 8; number++) {
            x.drop(number);
        }
        DUE.is("all are dropped, but eight were told", -1, x.cache(8, 8, 0, 0));
    }

    private static void stride() {
        DUE.sentence("The STRIDE is SIZE, rounded up to a multiple of ALIGN");
        for (int align : new int[] {8, 16, 32, 64}) {
            for (int size : new int[] {8, 56, 64, 72, 120, 128, 136, 960, 968, 1024}) {
                int want = size / align * align;
                want = want < size ? want + align : want;
                DUE.is("STRIDE of " + size + ", " + align, want, with(size, align, 0).about(0, 0));
            }
        }
        DUE.is("STRIDE of 64, 64", 64, with(64, 64, 0).about(0, 0));
        DUE.is("STRIDE of 72, 64", 128, with(72, 64, 0).about(0, 0));
        DUE.is("STRIDE of 4096, 64", 4096, with(4096, 64, 3).about(0, 0));
        DUE.is("STRIDE of 4040, 64", 4096, with(4040, 64, 3).about(0, 0));
    }

    private static void objectsOfASlab() {
        DUE.sentence("a SLAB .. has as many OBJECTS as go into it");
        objects(8, 8, 0, 128);
        objects(8, 8, 3, 1024);
        objects(8, 64, 0, 16);
        objects(512, 8, 0, 2);
        objects(520, 8, 0, 1);
        objects(1024, 64, 0, 1);
        objects(336, 8, 0, 3);
        objects(344, 8, 0, 2);
        objects(4096, 8, 2, 1);
        objects(4096, 8, 3, 2);
    }

    private static void objects(int size, int align, int order, int want) {
        SlabHouse x = with(size, align, order);
        DUE.is("about(0, 1) of " + size + ", " + align + ", " + order, want, x.about(0, 1));
        int taken = Math.min(want, 300);
        for (int i = 0; i < taken; i++) {
            x.allocate(0, 0);
        }
        DUE.is("slabs", 1, x.about(0, 4));
        DUE.is("the slab holds them", taken, x.slab(0, 2));
        if (taken == want) {
            DUE.is("one more begins a new slab", 1024 << order, x.slab(x.allocate(0, 0), 0));
        }
    }

    private static void howManyColours() {
        DUE.sentence("COLOURS are 0 .. SPARE / ALIGN");
        DUE.is("no SPARE bytes", 1, with(512, 8, 0).about(0, 2));
        DUE.is("SPARE 8, ALIGN 8", 2, with(1016, 8, 0).about(0, 2));
        DUE.is("SPARE 16, ALIGN 8", 3, with(1008, 8, 0).about(0, 2));
        DUE.is("SPARE 16, ALIGN 16", 2, with(1008, 16, 0).about(0, 2));
        DUE.is("SPARE 0, ALIGN 16, for SIZE is rounded up", 1, with(1016, 16, 0).about(0, 2));
        DUE.is("SPARE 64, ALIGN 64", 2, with(960, 64, 0).about(0, 2));
        DUE.is("SPARE 64, ALIGN 64, for SIZE is rounded up", 2, with(904, 64, 0).about(0, 2));
        DUE.is("SPARE 128, ALIGN 64", 3, with(896, 64, 0).about(0, 2));
        DUE.is("SPARE 448, ALIGN 64", 8, with(576, 64, 0).about(0, 2));
        DUE.is("SPARE 504, ALIGN 8", 64, with(520, 8, 0).about(0, 2));
        DUE.is("SPARE 2040, ALIGN 8", 256, with(2056, 8, 2).about(0, 2));
    }

    private static void coloursWrapAround() {
        DUE.sentence("the first SLAB of a CACHE has COLOUR 0, each next one 1 more, 0 behind the last");
        SlabHouse x = with(1000, 8, 0);
        DUE.is("COLOURS", 4, x.about(0, 2));
        for (int slab = 0; slab < 13; slab++) {
            DUE.is("the next COLOUR before slab " + slab, slab % 4, x.about(0, 3));
            DUE.is("the object of slab " + slab, 1024 * slab + 8 * (slab % 4), x.allocate(0, 0));
            DUE.is("the COLOUR of slab " + slab, slab % 4, x.slab(1024 * slab, 1));
        }
        SlabHouse two = with(1016, 8, 0);
        for (int slab = 0; slab < 5; slab++) {
            DUE.is("of two, slab " + slab, 1024 * slab + 8 * (slab % 2), two.allocate(0, 0));
        }
    }

    private static void oneColourStays() {
        DUE.sentence("COLOURS are 0 .. SPARE / ALIGN: 0 alone");
        SlabHouse x = with(1024, 64, 0);
        for (int slab = 0; slab < 4; slab++) {
            DUE.is("the next COLOUR", 0, x.about(0, 3));
            DUE.is("the object", 1024 * slab, x.allocate(0, 0));
            DUE.is("the COLOUR", 0, x.slab(1024 * slab, 1));
        }
    }

    private static void theLastColourStillFits() {
        DUE.sentence("OBJECT i of a SLAB begins at its first byte + COLOUR * ALIGN + i * STRIDE: the last COLOUR");
        SlabHouse x = with(336, 8, 0);
        DUE.is("SPARE 16, ALIGN 8", 3, x.about(0, 2));
        for (int i = 0; i < 9; i++) {
            int slab = i / 3;
            DUE.is("object " + i, 1024 * slab + 8 * slab + 336 * (i % 3), x.allocate(0, 0));
        }
        DUE.is("the last byte of the last slab is an object's", 2736, x.objectOf(3071));
        DUE.is("behind it no slab is", -1, x.cacheOf(3072));
        DUE.is("the last byte of the first slab is not", -1, x.objectOf(1023));
    }

    private static void coloursGoOn() {
        DUE.sentence("each next one 1 more: of the SLABS that were made, not of those that are there");
        SlabHouse x = with(1000, 8, 0);
        for (int made = 0; made < 6; made++) {
            DUE.is("the next COLOUR", made % 4, x.about(0, 3));
            int a = x.allocate(0, 0);
            DUE.is("the same page, another COLOUR", 8 * (made % 4), a);
            giveToSlab(x, a);
            DUE.is("an EMPTY one keeps its COLOUR", made % 4, x.slab(0, 1));
            DUE.is("reap()", 1, x.reap());
        }
        SlabHouse y = with(1000, 8, 0);
        int a = y.allocate(0, 0);
        giveToSlab(y, a);
        DUE.is("taken of the EMPTY one, which is not made anew", a, y.allocate(0, 0));
        DUE.is("the next COLOUR", 1, y.about(0, 3));
    }

    private static void coloursWaitForASlab() {
        DUE.sentence("each next one 1 more: a SLAB that could not be made has no COLOUR");
        SlabHouse x = with(4096, 8, 2);
        x.cache(1000, 8, 0, 0);
        DUE.is("the first slab", 0, x.allocate(1, 0));
        for (int i = 0; i < 63; i++) {
            x.allocate(0, 0);
        }
        DUE.is("the second slab", 1032, x.allocate(1, 0));
        DUE.is("the third slab", 2064, x.allocate(1, 0));
        DUE.is("the fourth slab", 3096, x.allocate(1, 0));
        DUE.is("the fifth slab comes later", -1, x.allocate(1, 0));
        DUE.is("nor is it here now", -1, x.allocate(1, 0));
        DUE.is("the next COLOUR", 0, x.about(1, 3));
        giveToSlab(x, 4096);
        DUE.is("the fifth slab", 4096, x.allocate(1, 0));
        DUE.is("its COLOUR", 0, x.slab(4096, 1));
        DUE.is("the next COLOUR", 1, x.about(1, 3));
    }

    private static void coloursAreOfEachCache() {
        DUE.sentence("the first SLAB of a CACHE has COLOUR 0: of each CACHE");
        SlabHouse x = with(1000, 8, 0);
        x.cache(992, 16, 0, 0);
        DUE.is("cache 0", 0, x.allocate(0, 0));
        DUE.is("cache 0", 1032, x.allocate(0, 0));
        DUE.is("cache 1", 2048, x.allocate(1, 0));
        DUE.is("cache 1", 3088, x.allocate(1, 0));
        DUE.is("cache 0", 4112, x.allocate(0, 0));
        DUE.is("next of cache 0", 3, x.about(0, 3));
        DUE.is("next of cache 1", 2, x.about(1, 3));
    }

    private static void objectsBegin() {
        DUE.sentence("OBJECT i of a SLAB begins at its first byte + COLOUR * ALIGN + i * STRIDE");
        SlabHouse x = with(72, 32, 1);
        DUE.is("OBJECTS", 21, x.about(0, 1));
        DUE.is("COLOURS", 2, x.about(0, 2));
        for (int i = 0; i < 63; i++) {
            int slab = i / 21;
            DUE.is("object " + i, 2048 * slab + 32 * (slab % 2) + 96 * (i % 21), x.allocate(0, 0));
        }
    }

    private static void dropOfNothing() {
        DUE.sentence("drop: how many PAGES: none");
        SlabHouse x = with(8, 8, 3);
        DUE.is("drop(0) without slabs", 0, x.drop(0));
        DUE.is("pages(0)", 256, x.pages(0));
        DUE.throwing("drop(0) again", NoSuchElementException.class, () -> x.drop(0));
    }

    private static void dropOfEverySlab() {
        DUE.sentence("drop: its SLABS are given back .. : how many PAGES");
        for (int order = 0; order <= 3; order++) {
            SlabHouse x = with(512 << order, 8, order);
            int[] held = new int[12];
            for (int i = 0; i < 12; i++) {
                held[i] = x.allocate(0, 0);
            }
            for (int i = 0; i < 12; i++) {
                x.free(held[i], i % 4);
            }
            DUE.is("drop(0) of six slabs of order " + order, 6 << order, x.drop(0));
            DUE.is("pages(0)", 256, x.pages(0));
            DUE.is("block(6, 3)", 192, x.block(6, 3));
            DUE.is("cacheOf(0)", -1, x.cacheOf(0));
        }
    }

    private static void dropWithMagazines() {
        DUE.sentence("drop: all that its MAGAZINES and DEPOT have comes back");
        SlabHouse x = with(64, 8, 0);
        for (int i = 0; i < 50; i++) {
            x.allocate(0, 0);
        }
        for (int i = 0; i < 50; i++) {
            x.free(64 * i, i < 20 ? 0 : 1 + i % 3);
        }
        DUE.is("the depot is full", 3, x.magazine(0, 0, 2));
        DUE.is("in magazines", 44, x.about(0, 6));
        DUE.is("drop(0)", 4, x.drop(0));
        x.cache(64, 8, 0, 0);
        DUE.is("the next cache has nothing of it", 0, x.about(1, 6));
        for (int processor = 0; processor < 4; processor++) {
            DUE.is("flush(" + processor + ")", 0, x.flush(processor));
            DUE.is("allocate(1, " + processor + ")", 64 * processor, x.allocate(1, processor));
        }
    }

    private static void dropWithLiveObjects() {
        DUE.sentence("drop: IllegalState: an OBJECT of it is LIVE");
        SlabHouse x = with(512, 8, 0);
        for (int i = 0; i < 3; i++) {
            x.allocate(0, 0);
        }
        for (int i = 0; i < 3; i++) {
            DUE.throwing("drop(0) with " + (3 - i), IllegalStateException.class, () -> x.drop(0));
            DUE.is("slabs", 2, x.about(0, 4));
            DUE.is("live", 3 - i, x.about(0, 5));
            x.free(512 * i, 1);
        }
        DUE.is("drop(0) with none", 2, x.drop(0));
    }

    private static void dropLeavesOthers() {
        DUE.sentence("drop: its SLABS are given back, and no others");
        SlabHouse x = with(512, 8, 0);
        x.cache(512, 8, 0, 0);
        x.free(x.allocate(0, 0), 0);
        int kept = x.allocate(1, 0);
        x.free(x.allocate(1, 0), 0);
        DUE.is("drop(0) while another cache's object is LIVE", 1, x.drop(0));
        DUE.is("the other's object", kept, x.objectOf(kept));
        DUE.is("the other's slabs", 1, x.about(1, 4));
        DUE.is("the other's magazine", 1, x.magazine(1, 0, 0));
        DUE.is("pages(1)", 1, x.pages(1));
    }

    private static void droppedIsGone() {
        DUE.sentence("A CACHE that is dropped is gone");
        SlabHouse x = with(512, 8, 0);
        int a = x.allocate(0, 0);
        x.free(a, 0);
        x.drop(0);
        DUE.throwing("drop(0)", NoSuchElementException.class, () -> x.drop(0));
        DUE.throwing("allocate(0, 0)", NoSuchElementException.class, () -> x.allocate(0, 0));
        DUE.throwing("empty(0)", NoSuchElementException.class, () -> x.empty(0));
        DUE.throwing("about(0, 0)", NoSuchElementException.class, () -> x.about(0, 0));
        DUE.throwing("list(0, 0, 0)", NoSuchElementException.class, () -> x.list(0, 0, 0));
        DUE.throwing("magazine(0, 0, 0)", NoSuchElementException.class, () -> x.magazine(0, 0, 0));
        DUE.throwing("free of its object", NoSuchElementException.class, () -> x.free(a, 0));
        DUE.throwing("mark of its object", NoSuchElementException.class, () -> x.mark(a, 0));
        DUE.throwing("slab of its object", NoSuchElementException.class, () -> x.slab(a, 0));
        DUE.is("cacheOf its object", -1, x.cacheOf(a));
        DUE.is("objectOf its object", -1, x.objectOf(a));
        DUE.is("flush(0)", 0, x.flush(0));
        DUE.is("reap()", 0, x.reap());
    }

    private static void droppedNumberIsNotToldAgain() {
        DUE.sentence("its number is never told again");
        SlabHouse x = new SlabHouse();
        for (int number = 0; number < 8; number++) {
            DUE.is("cache", number, x.cache(8, 8, 0, 0));
            DUE.is("drop", 0, x.drop(number));
        }
        DUE.is("cache", -1, x.cache(8, 8, 0, 0));
        SlabHouse y = with(8, 8, 0);
        y.cache(16, 8, 0, 0);
        y.drop(0);
        DUE.is("the next, not the gap", 2, y.cache(24, 8, 0, 0));
        DUE.is("STRIDE of 1", 16, y.about(1, 0));
        DUE.is("STRIDE of 2", 24, y.about(2, 0));
        DUE.throwing("0 is gone", NoSuchElementException.class, () -> y.about(0, 0));
    }

    private static void aboutWhat() {
        DUE.sentence("about: what = 0 .. 7. IllegalArgument: another what");
        SlabHouse x = with(600, 32, 0);
        int[] due = {608, 1, 14, 0, 0, 0, 0, 0};
        for (int what = 0; what < 8; what++) {
            DUE.is("about(0, " + what + ")", due[what], x.about(0, what));
        }
        for (int what : new int[] {-1, 8, Integer.MIN_VALUE, Integer.MAX_VALUE}) {
            DUE.throwing("about(0, " + what + ")", IllegalArgumentException.class, () -> x.about(0, what));
            DUE.throwing("about(1, " + what + ")", NoSuchElementException.class, () -> x.about(1, what));
        }
    }

    private static void aboutSlabs() {
        DUE.sentence("about: 4 its SLABS: FULL, PARTIAL and EMPTY ones");
        SlabHouse x = with(512, 8, 0);
        for (int i = 0; i < 5; i++) {
            x.allocate(0, 0);
            DUE.is("about(0, 4)", i / 2 + 1, x.about(0, 4));
        }
        giveToSlab(x, 0);
        DUE.is("with two PARTIAL", 3, x.about(0, 4));
        giveToSlab(x, 512);
        DUE.is("with one EMPTY", 3, x.about(0, 4));
        x.reap();
        DUE.is("without it", 2, x.about(0, 4));
    }

    private static void aboutLive() {
        DUE.sentence("about: 5 LIVE OBJECTS: not those in magazines, nor FREE ones");
        SlabHouse x = with(64, 8, 0);
        DUE.is("none", 0, x.about(0, 5));
        for (int i = 0; i < 17; i++) {
            x.allocate(0, 0);
            DUE.is("allocated", i + 1, x.about(0, 5));
        }
        for (int i = 0; i < 17; i++) {
            x.free(64 * i, 0);
            DUE.is("freed", 16 - i, x.about(0, 5));
        }
        x.allocate(0, 0);
        DUE.is("of a magazine", 1, x.about(0, 5));
        x.flush(0);
        DUE.is("after a flush", 1, x.about(0, 5));
    }

    private static void aboutMagazines() {
        DUE.sentence("about: 6 OBJECTS in MAGAZINES (in those of the DEPOT, too)");
        SlabHouse x = with(64, 8, 3);
        for (int i = 0; i < 60; i++) {
            x.allocate(0, 0);
        }
        int most = 4 * 2 * 4 + 3 * 4;
        for (int i = 0; i < 60; i++) {
            int processor = i < 20 ? 0 : 1 + (i - 20) / 8 % 3;
            x.free(64 * i, processor);
            DUE.is("freed " + (i + 1), Math.min(i + 1, most), x.about(0, 6));
        }
        DUE.is("all magazines are full", 44, x.about(0, 6));
        x.flush(3);
        DUE.is("without those of processor 3", 36, x.about(0, 6));
        x.empty(0);
        DUE.is("without the DEPOT", 24, x.about(0, 6));
        x.allocate(0, 0);
        DUE.is("one is taken", 23, x.about(0, 6));
    }

    private static void aboutNoObject() {
        DUE.sentence("about: 7 how often there was no OBJECT");
        SlabHouse x = with(4096, 8, 2);
        x.cache(4096, 8, 3, 0);
        for (int i = 0; i < 64; i++) {
            x.allocate(0, 0);
        }
        DUE.is("never", 0, x.about(0, 7));
        for (int times = 1; times <= 3; times++) {
            DUE.is("allocate(0, 0)", -1, x.allocate(0, 0));
            DUE.is("so often", times, x.about(0, 7));
        }
        DUE.is("the other cache: never", 0, x.about(1, 7));
        DUE.is("allocate(1, 2)", -1, x.allocate(1, 2));
        DUE.is("the other cache: once", 1, x.about(1, 7));
        DUE.throwing("a refused call", IllegalArgumentException.class, () -> x.allocate(0, 4));
        x.free(0, 0);
        x.allocate(0, 0);
        DUE.is("neither a refused call nor an object counts", 3, x.about(0, 7));
    }
}

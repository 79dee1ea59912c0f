import java.util.NoSuchElementException;

/**
 * The boundary cases of OBJECTS, sentence by sentence: promises 4 (allocate), 5 (free), 6 (mark),
 * 10 (cacheOf) and 11 (objectOf).
 */
public final class ObjectEdgesTest {
    private static final Due DUE = new Due();
    private static final int[] NO_PROCESSORS = {-1, 4, Integer.MIN_VALUE, Integer.MAX_VALUE};
    private static final int[] NO_ADDRESSES = {-1, -1024, 262144, Integer.MIN_VALUE, Integer.MAX_VALUE};

    public static void main(String[] args) {
        allocateAnswers();
        allocateNone();
        allocateCaches();
        allocateProcessors();
        allocateAgain();
        freeAnswers();
        freeWhereNoneBegins();
        freeTwice();
        freeProcessors();
        freeMarks();
        freeFirstException();
        markAnswers();
        markWhereNoneBegins();
        marksAreOfEachObject();
        markStays();
        cacheOfBounds();
        cacheOfParts();
        cacheOfKinds();
        objectOfSize();
        objectOfFullStride();
        objectOfColour();
        objectOfKinds();
        objectOfBounds();
        DUE.end();
    }

    /** Objects of 104 bytes at every 112, nine a slab, COLOURS 0 and 1 of 16 bytes; TAG 7. */
    private static SlabHouse small(int objects) {
        SlabHouse x = new SlabHouse();
        x.cache(104, 16, 0, 7);
        for (int i = 0; i < objects; i++) {
            x.allocate(0, 0);
        }
        return x;
    }

    private static void allocateAnswers() {
        DUE.sentence("allocate: the ADDRESS, from 0 to that of the last OBJECT that goes into MEMORY");
        SlabHouse x = new SlabHouse();
        x.cache(4096, 8, 3, 0);
        for (int i = 0; i < 64; i++) {
            DUE.is("object " + i, 4096 * i, x.allocate(0, i % 4));
        }
        DUE.is("LIVE", 64, x.about(0, 5));
    }

    private static void allocateNone() {
        DUE.sentence("allocate: NONE if there is no OBJECT");
        SlabHouse x = new SlabHouse();
        x.cache(4096, 8, 3, 0);
        x.cache(8, 8, 0, 0);
        for (int i = 0; i < 63; i++) {
            x.allocate(0, 0);
        }
        DUE.is("the last one", 4096 * 63, x.allocate(0, 0));
        for (int processor = 0; processor < 4; processor++) {
            DUE.is("allocate(0, " + processor + ")", -1, x.allocate(0, processor));
            DUE.is("allocate(1, " + processor + ")", -1, x.allocate(1, processor));
        }
        DUE.is("LIVE", 64, x.about(0, 5));
        x.free(4096 * 20, 0);
        DUE.is("one again", 4096 * 20, x.allocate(0, 0));
    }

    private static void allocateCaches() {
        DUE.sentence("allocate: NoSuchElement");
        SlabHouse x = new SlabHouse();
        DUE.throwing("allocate(0, 0) before any is told", NoSuchElementException.class, () -> x.allocate(0, 0));
        for (int number = 0; number < 8; number++) {
            int next = number + 1;
            x.cache(64, 8, 0, 0);
            DUE.is("the last that was told", 1024 * number, x.allocate(number, 0));
            DUE.throwing("the next one", NoSuchElementException.class, () -> x.allocate(next, 0));
        }
        for (int c : new int[] {-1, 8, Integer.MIN_VALUE, Integer.MAX_VALUE}) {
            DUE.throwing("allocate(" + c + ", 0)", NoSuchElementException.class, () -> x.allocate(c, 0));
            DUE.throwing("allocate(" + c + ", 4)", NoSuchElementException.class, () -> x.allocate(c, 4));
        }
    }

    private static void allocateProcessors() {
        DUE.sentence("allocate: IllegalArgument: there is no such PROCESSOR");
        SlabHouse x = small(0);
        for (int processor = 0; processor < 4; processor++) {
            DUE.is("allocate(0, " + processor + ")", 112 * processor, x.allocate(0, processor));
        }
        for (int p : NO_PROCESSORS) {
            DUE.throwing("allocate(0, " + p + ")", IllegalArgumentException.class, () -> x.allocate(0, p));
        }
        DUE.is("LIVE", 4, x.about(0, 5));
        DUE.is("there was no lack", 0, x.about(0, 7));
    }

    private static void allocateAgain() {
        DUE.sentence("allocate: an OBJECT is LIVE again, with the MARK that it kept");
        SlabHouse x = small(3);
        x.free(112, 0);
        DUE.is("not LIVE", -1, x.objectOf(112));
        DUE.is("of the magazine", 112, x.allocate(0, 0));
        DUE.is("LIVE", 112, x.objectOf(112));
        DUE.is("its MARK", 7, x.mark(112, 7));
        x.free(112, 0);
        x.flush(0);
        DUE.is("of the slab", 112, x.allocate(0, 0));
        DUE.is("its MARK", 7, x.mark(112, 7));
        DUE.is("LIVE", 3, x.about(0, 5));
    }

    private static void freeAnswers() {
        DUE.sentence("free: its CACHE");
        SlabHouse x = new SlabHouse();
        for (int c = 0; c < 8; c++) {
            x.cache(512, 8, 0, c);
            x.allocate(c, 0);
            x.allocate(c, 0);
        }
        for (int c = 7; c >= 0; c--) {
            DUE.is("free of its second object", c, x.free(1024 * c + 512, c % 4));
            DUE.is("free of its first object", c, x.free(1024 * c, 3 - c % 4));
        }
    }

    private static void freeWhereNoneBegins() {
        DUE.sentence("free: NoSuchElement: no LIVE OBJECT begins there");
        SlabHouse x = small(11);
        int[] none = {1, 8, 103, 104, 111, 112 - 8, 112 + 16, 9 * 112, 1008, 1023, 1024, 1039, 1041, 1040 + 2 * 112,
            1040 + 8 * 112, 2032, 2048, 262143};
        for (int a : none) {
            DUE.throwing("free(" + a + ", 0)", NoSuchElementException.class, () -> x.free(a, 0));
        }
        for (int a : NO_ADDRESSES) {
            DUE.throwing("free(" + a + ", 0)", NoSuchElementException.class, () -> x.free(a, 0));
        }
        DUE.is("the first object", 0, x.free(0, 0));
        DUE.is("the last of the first slab", 0, x.free(8 * 112, 0));
        DUE.is("the first of the second slab", 0, x.free(1040, 0));
        DUE.is("the last LIVE one", 0, x.free(1040 + 112, 0));
        DUE.throwing("free before any is told", NoSuchElementException.class, () -> new SlabHouse().free(0, 0));
    }

    private static void freeTwice() {
        DUE.sentence("free: NoSuchElement: one in a magazine, or FREE, is not LIVE");
        SlabHouse x = small(22);
        for (int i = 0; i < 18; i++) {
            int a = 1024 * (i / 9) + 16 * (i / 9) + 112 * (i % 9);
            x.free(a, 0);
            DUE.throwing("free(" + a + ", 0) again", NoSuchElementException.class, () -> x.free(a, 0));
            DUE.throwing("free(" + a + ", 1) again", NoSuchElementException.class, () -> x.free(a, 1));
        }
        x.flush(0);
        x.empty(0);
        for (int i = 0; i < 18; i++) {
            int a = 1024 * (i / 9) + 16 * (i / 9) + 112 * (i % 9);
            DUE.throwing("free(" + a + ", 0) when FREE", NoSuchElementException.class, () -> x.free(a, 0));
        }
        x.reap();
        DUE.throwing("free(0, 0) when its slab is gone", NoSuchElementException.class, () -> x.free(0, 0));
        DUE.is("LIVE", 4, x.about(0, 5));
    }

    private static void freeProcessors() {
        DUE.sentence("free: IllegalArgument: there is no such PROCESSOR");
        SlabHouse x = small(4);
        for (int p : NO_PROCESSORS) {
            DUE.throwing("free(0, " + p + ")", IllegalArgumentException.class, () -> x.free(0, p));
        }
        for (int processor = 0; processor < 4; processor++) {
            DUE.is("free(.., " + processor + ")", 0, x.free(112 * processor, processor));
            DUE.is("magazine(0, " + processor + ", 0)", 1, x.magazine(0, processor, 0));
        }
    }

    private static void freeMarks() {
        DUE.sentence("free: IllegalState: its MARK is not the TAG");
        SlabHouse x = small(2);
        for (int mark : new int[] {6, 8, 0, -7, Integer.MIN_VALUE, Integer.MAX_VALUE}) {
            x.mark(112, mark);
            DUE.throwing("free with the mark " + mark, IllegalStateException.class, () -> x.free(112, 0));
            DUE.is("it is LIVE", 112, x.objectOf(112));
            DUE.is("it kept its MARK", mark, x.mark(112, mark));
        }
        DUE.is("its neighbour is free", 0, x.free(0, 0));
        x.mark(112, 7);
        DUE.is("with the TAG", 0, x.free(112, 0));
    }

    private static void freeFirstException() {
        DUE.sentence("where it lists more than one exception, the first one wins: free");
        SlabHouse x = small(2);
        x.mark(112, 8);
        for (int p : NO_PROCESSORS) {
            DUE.throwing("no object, no processor", NoSuchElementException.class, () -> x.free(224, p));
            DUE.throwing("no address, no processor", NoSuchElementException.class, () -> x.free(-1, p));
            DUE.throwing("no processor, another mark", IllegalArgumentException.class, () -> x.free(112, p));
        }
        DUE.throwing("inside of one with another mark", NoSuchElementException.class, () -> x.free(113, 0));
        DUE.throwing("another mark", IllegalStateException.class, () -> x.free(112, 3));
    }

    private static void markAnswers() {
        DUE.sentence("mark: A LIVE OBJECT's MARK: what it was");
        SlabHouse x = small(1);
        int was = 7;
        for (int mark : new int[] {8, 8, -1, 0, Integer.MIN_VALUE, Integer.MAX_VALUE, 7}) {
            DUE.is("mark(0, " + mark + ")", was, x.mark(0, mark));
            was = mark;
        }
    }

    private static void markWhereNoneBegins() {
        DUE.sentence("mark: NoSuchElement: none begins there");
        SlabHouse x = small(11);
        x.free(224, 0);
        for (int a : new int[] {1, 103, 104, 111, 224, 1008, 1024, 1039, 1041, 1040 + 2 * 112, 2048, 262143}) {
            DUE.throwing("mark(" + a + ", 0)", NoSuchElementException.class, () -> x.mark(a, 0));
        }
        for (int a : NO_ADDRESSES) {
            DUE.throwing("mark(" + a + ", 0)", NoSuchElementException.class, () -> x.mark(a, 0));
        }
        x.flush(0);
        DUE.throwing("mark of a FREE one", NoSuchElementException.class, () -> x.mark(224, 0));
        DUE.is("the last of the first slab", 7, x.mark(8 * 112, 7));
        DUE.is("the first of the second slab", 7, x.mark(1040, 7));
        DUE.throwing("mark before any is told", NoSuchElementException.class, () -> new SlabHouse().mark(0, 0));
    }

    private static void marksAreOfEachObject() {
        DUE.sentence("mark: of this OBJECT alone");
        SlabHouse x = small(18);
        for (int i = 0; i < 18; i++) {
            x.mark(1024 * (i / 9) + 16 * (i / 9) + 112 * (i % 9), 100 + i);
        }
        for (int i = 17; i >= 0; i--) {
            DUE.is("object " + i, 100 + i, x.mark(1024 * (i / 9) + 16 * (i / 9) + 112 * (i % 9), 7));
        }
    }

    private static void markStays() {
        DUE.sentence("mark: a MARK stays through all that other OBJECTS do");
        SlabHouse x = small(9);
        x.mark(448, 55);
        for (int i = 0; i < 9; i++) {
            if (i != 4) {
                x.free(112 * i, 0);
            }
        }
        x.flush(0);
        x.reap();
        DUE.throwing("drop(0)", IllegalStateException.class, () -> x.drop(0));
        DUE.is("its MARK", 55, x.mark(448, 7));
    }

    private static void cacheOfBounds() {
        DUE.sentence("cacheOf: the CACHE of the SLAB in which it lies; NONE without one");
        for (int order = 0; order <= 3; order++) {
            SlabHouse x = new SlabHouse();
            x.cache(8, 8, 0, 0);
            x.cache(1000, 8, order, 0);
            x.allocate(1, 0);
            int end = 1024 << order;
            DUE.is("the first byte", 1, x.cacheOf(0));
            DUE.is("the last byte", 1, x.cacheOf(end - 1));
            DUE.is("behind it", -1, x.cacheOf(end));
            DUE.is("before it", -1, x.cacheOf(-1));
            x.allocate(0, 0);
            DUE.is("the next slab is another cache's", 0, x.cacheOf(end));
        }
        for (int a : NO_ADDRESSES) {
            DUE.is("cacheOf(" + a + ")", -1, small(3).cacheOf(a));
        }
    }

    private static void cacheOfParts() {
        DUE.sentence("cacheOf: of the SLAB: of every byte of it");
        SlabHouse x = small(11);
        for (int a : new int[] {0, 103, 104, 111, 1007, 1008, 1023, 1024, 1039, 1040, 1400, 2047}) {
            DUE.is("cacheOf(" + a + ")", 0, x.cacheOf(a));
        }
        DUE.is("cacheOf(2048)", -1, x.cacheOf(2048));
    }

    private static void cacheOfKinds() {
        DUE.sentence("cacheOf: whether an OBJECT is LIVE or not");
        SlabHouse x = small(1);
        x.free(0, 0);
        DUE.is("in a magazine", 0, x.cacheOf(0));
        x.flush(0);
        DUE.is("EMPTY", 0, x.cacheOf(0));
        x.reap();
        DUE.is("given back", -1, x.cacheOf(0));
        x.allocate(0, 0);
        x.free(16, 0);
        DUE.is("made anew", 0, x.cacheOf(0));
        x.drop(0);
        DUE.is("dropped", -1, x.cacheOf(0));
    }

    private static void objectOfSize() {
        DUE.sentence("objectOf: the LIVE OBJECT in whose SIZE bytes an ADDRESS lies; NONE without one");
        SlabHouse x = small(9);
        for (int i = 0; i < 9; i++) {
            int begin = 112 * i;
            DUE.is("before object " + i, -1, x.objectOf(begin - 1));
            DUE.is("its first byte", begin, x.objectOf(begin));
            DUE.is("its second byte", begin, x.objectOf(begin + 1));
            DUE.is("its last byte", begin, x.objectOf(begin + 103));
            DUE.is("behind SIZE", -1, x.objectOf(begin + 104));
            DUE.is("the last byte of STRIDE", -1, x.objectOf(begin + 111));
        }
        DUE.is("a SPARE byte", -1, x.objectOf(1008));
        DUE.is("the last SPARE byte", -1, x.objectOf(1023));
    }

    private static void objectOfFullStride() {
        DUE.sentence("objectOf: SIZE is STRIDE: one OBJECT's last byte is next to another's first");
        SlabHouse x = new SlabHouse();
        x.cache(512, 8, 0, 0);
        for (int i = 0; i < 4; i++) {
            x.allocate(0, 0);
        }
        x.free(1024, 0);
        DUE.is("objectOf(511)", 0, x.objectOf(511));
        DUE.is("objectOf(512)", 512, x.objectOf(512));
        DUE.is("objectOf(1023)", 512, x.objectOf(1023));
        DUE.is("objectOf(1024), in a magazine", -1, x.objectOf(1024));
        DUE.is("objectOf(1535), in a magazine", -1, x.objectOf(1535));
        DUE.is("objectOf(1536)", 1536, x.objectOf(1536));
        DUE.is("objectOf(2047)", 1536, x.objectOf(2047));
        DUE.is("objectOf(2048)", -1, x.objectOf(2048));
    }

    private static void objectOfColour() {
        DUE.sentence("objectOf: before the COLOUR's first byte there is none");
        SlabHouse x = small(10);
        DUE.is("the first byte of the slab", -1, x.objectOf(1024));
        DUE.is("the last one before the object", -1, x.objectOf(1039));
        DUE.is("the object's first", 1040, x.objectOf(1040));
        DUE.is("the object's last", 1040, x.objectOf(1143));
        DUE.is("behind it", -1, x.objectOf(1144));
        DUE.is("a FREE one", -1, x.objectOf(1152));
    }

    private static void objectOfKinds() {
        DUE.sentence("objectOf: not one that is FREE or in a magazine");
        SlabHouse x = small(2);
        DUE.is("never taken", -1, x.objectOf(224));
        x.free(112, 0);
        DUE.is("in a magazine", -1, x.objectOf(112));
        DUE.is("its neighbour", 0, x.objectOf(50));
        x.flush(0);
        DUE.is("FREE", -1, x.objectOf(112));
        x.allocate(0, 0);
        DUE.is("LIVE again", 112, x.objectOf(150));
        x.free(0, 0);
        x.free(112, 0);
        x.drop(0);
        DUE.is("of a dropped cache", -1, x.objectOf(112));
    }

    private static void objectOfBounds() {
        DUE.sentence("objectOf: where no SLAB is, or no ADDRESS");
        SlabHouse x = small(1);
        for (int a : NO_ADDRESSES) {
            DUE.is("objectOf(" + a + ")", -1, x.objectOf(a));
        }
        DUE.is("a free page", -1, x.objectOf(1024));
        DUE.is("the last address", -1, x.objectOf(262143));
        DUE.is("of a new object", -1, new SlabHouse().objectOf(0));
    }
}

import java.util.List;
import java.util.NoSuchElementException;

/**
 * "A call that throws changes nothing; where it lists more than one exception, the first one wins.":
 * each promise's refused calls, in each state in which they are refused; after each of them all that
 * can be seen is compared with an object that was told the same without it.
 */
public final class RefusalsTest {
    private static final Due DUE = new Due();
    private static final Class<NoSuchElementException> NO_SUCH = NoSuchElementException.class;
    private static final Class<IllegalArgumentException> ARGUMENT = IllegalArgumentException.class;
    private static final Class<IllegalStateException> STATE = IllegalStateException.class;

    private static final int[] NO_PROCESSORS = {-1, 4, Integer.MIN_VALUE, Integer.MAX_VALUE};
    /** Of the state with some of all: never told, dropped, and beyond all numbers. */
    private static final int[] NO_CACHES = {-1, 2, 4, 7, 8, Integer.MIN_VALUE, Integer.MAX_VALUE};
    private static final int[] CACHES = {0, 1, 3};

    private final Story story;

    private RefusalsTest(Story story) {
        this.story = story;
    }

    public static void main(String[] args) {
        theStoriesAreAsTold();
        new RefusalsTest(Stories.fresh()).nothingIsThere();
        new RefusalsTest(Stories.toldOnly()).noSlabIsThere();
        new RefusalsTest(Stories.roomInPrevious()).anotherMark();
        new RefusalsTest(Stories.roomInTheDepot()).anotherMark();
        new RefusalsTest(Stories.eightTold()).eightWereTold();
        new RefusalsTest(Stories.allTaken()).allIsTaken();
        RefusalsTest rich = new RefusalsTest(Stories.someOfAll());
        rich.cache();
        rich.drop();
        rich.allocate();
        rich.freeWithoutLiveObject();
        rich.freeOfLiveObjects();
        rich.mark();
        rich.flush();
        rich.empty();
        rich.about();
        rich.list();
        rich.slab();
        rich.magazine();
        rich.block();
        questionsChangeNothing();
        DUE.end();
    }

    /** The tables of Stories are what they say; else the refusals below would test something else. */
    private static void theStoriesAreAsTold() {
        SlabHouse x = Stories.someOfAll().told();
        for (int address : Stories.LIVE) {
            DUE.is("objectOf(" + address + ")", address, x.objectOf(address));
        }
        for (int address : Stories.MARKED) {
            DUE.is("mark(" + address + ", 1)", 1, x.mark(address, 1));
        }
        for (int address : Stories.IN_MAGAZINES) {
            DUE.is("objectOf(" + address + ")", -1, x.objectOf(address));
        }
        for (int address : Stories.FREE) {
            DUE.is("objectOf(" + address + ")", -1, x.objectOf(address));
        }
        DUE.is("the depot is full", 3, x.magazine(0, 0, 2));
        DUE.is("LOADED is full", 4, x.magazine(0, 1, 0));
        DUE.is("PREVIOUS is full", 4, x.magazine(0, 1, 1));
        DUE.is("a FULL slab", 1024, x.list(0, 0, 0));
        DUE.is("a PARTIAL slab", 2048, x.list(0, 1, 0));
        DUE.is("an EMPTY slab", 3072, x.list(0, 2, 0));
        SlabHouse room = Stories.roomInTheDepot().told();
        DUE.is("LOADED is full", 4, room.magazine(0, 0, 0));
        DUE.is("PREVIOUS is full", 4, room.magazine(0, 0, 1));
        DUE.is("the depot is not", 2, room.magazine(0, 0, 2));
        DUE.is("LOADED is full", 4, Stories.roomInPrevious().told().magazine(0, 0, 0));
        DUE.is("no page is free", 0, Stories.allTaken().told().pages(0));
        DUE.is("no ninth cache", -1, Stories.eightTold().told().cache(8, 8, 0, 0));
    }

    private void refused(String call, Class<? extends RuntimeException> want, Story.Step step) {
        SlabHouse x = story.told();
        DUE.throwing(call, want, () -> step.on(x));
        Views.unchanged(DUE, call, story, List.of(new Views.Question(call, step)), Views.all());
    }

    private void nothingIsThere() {
        wrongCaches();
        for (int c : new int[] {-1, 0, 7, 8}) {
            refused("drop(" + c + ")", NO_SUCH, x -> x.drop(c));
            refused("allocate(" + c + ", 0)", NO_SUCH, x -> x.allocate(c, 0));
            refused("allocate(" + c + ", 4)", NO_SUCH, x -> x.allocate(c, 4));
            refused("empty(" + c + ")", NO_SUCH, x -> x.empty(c));
            refused("about(" + c + ", 0)", NO_SUCH, x -> x.about(c, 0));
            refused("list(" + c + ", 0, 0)", NO_SUCH, x -> x.list(c, 0, 0));
            refused("magazine(" + c + ", 0, 0)", NO_SUCH, x -> x.magazine(c, 0, 0));
        }
        for (int a : new int[] {-1, 0, 262143, 262144}) {
            refused("free(" + a + ", 0)", NO_SUCH, x -> x.free(a, 0));
            refused("mark(" + a + ", 0)", NO_SUCH, x -> x.mark(a, 0));
            refused("slab(" + a + ", 0)", NO_SUCH, x -> x.slab(a, 0));
        }
        refused("flush(4)", ARGUMENT, x -> x.flush(4));
        refused("block(7, 0)", ARGUMENT, x -> x.block(7, 0));
    }

    private void noSlabIsThere() {
        for (int c = 0; c < 2; c++) {
            int cache = c;
            for (int p : NO_PROCESSORS) {
                refused("allocate(" + c + ", " + p + ")", ARGUMENT, x -> x.allocate(cache, p));
                refused("magazine(" + c + ", " + p + ", 0)", ARGUMENT, x -> x.magazine(cache, p, 0));
            }
            refused("list(" + c + ", 3, 0)", ARGUMENT, x -> x.list(cache, 3, 0));
            refused("about(" + c + ", 8)", ARGUMENT, x -> x.about(cache, 8));
        }
        refused("drop(2)", NO_SUCH, x -> x.drop(2));
        refused("free(0, 0)", NO_SUCH, x -> x.free(0, 0));
    }

    /** LOADED is full: a call that is refused makes no room. */
    private void anotherMark() {
        refused("free(1280, 0) with another mark", STATE, x -> x.free(1280, 0));
        refused("free(1280, 4) with another mark", ARGUMENT, x -> x.free(1280, 4));
        refused("free(1344, 4)", ARGUMENT, x -> x.free(1344, 4));
        refused("free(64, 0), which is in a magazine", NO_SUCH, x -> x.free(64, 0));
        refused("mark(64, 0), which is in a magazine", NO_SUCH, x -> x.mark(64, 0));
        refused("drop(0)", STATE, x -> x.drop(0));
        refused("flush(-1)", ARGUMENT, x -> x.flush(-1));
    }

    /** "IllegalArgument (before NONE)": the ninth is refused, too, as long as something is not as said. */
    private void eightWereTold() {
        wrongCaches();
        refused("drop(6), which is dropped", NO_SUCH, x -> x.drop(6));
        refused("drop(7)", STATE, x -> x.drop(7));
        refused("drop(8)", NO_SUCH, x -> x.drop(8));
        refused("allocate(6, 0), which is dropped", NO_SUCH, x -> x.allocate(6, 0));
    }

    private void allIsTaken() {
        refused("allocate(0, 4)", ARGUMENT, x -> x.allocate(0, 4));
        refused("allocate(1, -1)", ARGUMENT, x -> x.allocate(1, -1));
        refused("allocate(2, 0)", NO_SUCH, x -> x.allocate(2, 0));
        refused("drop(0)", STATE, x -> x.drop(0));
        refused("free(36864, 0), which is in a magazine", NO_SUCH, x -> x.free(36864, 0));
        refused("free(262144, 0)", NO_SUCH, x -> x.free(262144, 0));
    }

    private void cache() {
        wrongCaches();
    }

    private void wrongCaches() {
        for (int size : new int[] {0, 1, 7, 9, 12, 100, 4095, 4097, 4104, -8, Integer.MIN_VALUE, Integer.MAX_VALUE}) {
            wrongCache(size, 8, 3);
        }
        for (int align : new int[] {0, 1, 4, 7, 9, 12, 24, 48, 63, 65, 128, -8, -64, Integer.MIN_VALUE}) {
            wrongCache(64, align, 0);
        }
        for (int order : new int[] {-1, 4, 6, 32, Integer.MIN_VALUE, Integer.MAX_VALUE}) {
            wrongCache(64, 8, order);
        }
        wrongCache(1032, 8, 0);
        wrongCache(2056, 8, 1);
        wrongCache(4096, 64, 1);
        wrongCache(4096, 8, 0);
    }

    private void wrongCache(int size, int align, int order) {
        refused("cache(" + size + ", " + align + ", " + order + ", 1)", ARGUMENT,
                x -> x.cache(size, align, order, 1));
    }

    private void drop() {
        for (int c : NO_CACHES) {
            refused("drop(" + c + ")", NO_SUCH, x -> x.drop(c));
        }
        for (int c : CACHES) {
            refused("drop(" + c + ") with LIVE objects", STATE, x -> x.drop(c));
        }
    }

    private void allocate() {
        for (int c : NO_CACHES) {
            refused("allocate(" + c + ", 0)", NO_SUCH, x -> x.allocate(c, 0));
            for (int p : NO_PROCESSORS) {
                refused("allocate(" + c + ", " + p + ")", NO_SUCH, x -> x.allocate(c, p));
            }
        }
        for (int c : CACHES) {
            for (int p : NO_PROCESSORS) {
                refused("allocate(" + c + ", " + p + ")", ARGUMENT, x -> x.allocate(c, p));
            }
        }
    }

    private void freeWithoutLiveObject() {
        for (int a : Stories.NOT_LIVE) {
            refused("free(" + a + ", 0)", NO_SUCH, x -> x.free(a, 0));
            refused("free(" + a + ", 4)", NO_SUCH, x -> x.free(a, 4));
            refused("free(" + a + ", -1)", NO_SUCH, x -> x.free(a, -1));
        }
    }

    private void freeOfLiveObjects() {
        for (int a : Stories.LIVE) {
            for (int p : NO_PROCESSORS) {
                refused("free(" + a + ", " + p + ")", ARGUMENT, x -> x.free(a, p));
            }
        }
        for (int a : Stories.MARKED) {
            for (int p : NO_PROCESSORS) {
                refused("free(" + a + ", " + p + ") with another mark", ARGUMENT, x -> x.free(a, p));
            }
            for (int processor = 0; processor < 4; processor++) {
                int p = processor;
                refused("free(" + a + ", " + p + ") with another mark", STATE, x -> x.free(a, p));
            }
        }
    }

    private void mark() {
        for (int a : Stories.NOT_LIVE) {
            refused("mark(" + a + ", 3)", NO_SUCH, x -> x.mark(a, 3));
        }
    }

    private void flush() {
        for (int p : NO_PROCESSORS) {
            refused("flush(" + p + ")", ARGUMENT, x -> x.flush(p));
        }
    }

    private void empty() {
        for (int c : NO_CACHES) {
            refused("empty(" + c + ")", NO_SUCH, x -> x.empty(c));
        }
    }

    private void about() {
        for (int c : NO_CACHES) {
            for (int w : new int[] {-1, 0, 7, 8}) {
                refused("about(" + c + ", " + w + ")", NO_SUCH, x -> x.about(c, w));
            }
        }
        for (int c : CACHES) {
            for (int w : new int[] {-1, 8, Integer.MIN_VALUE, Integer.MAX_VALUE}) {
                refused("about(" + c + ", " + w + ")", ARGUMENT, x -> x.about(c, w));
            }
        }
    }

    private void list() {
        for (int c : NO_CACHES) {
            for (int w : new int[] {-1, 0, 2, 3}) {
                refused("list(" + c + ", " + w + ", 0)", NO_SUCH, x -> x.list(c, w, 0));
            }
        }
        for (int c : CACHES) {
            for (int w : new int[] {-1, 3, Integer.MIN_VALUE, Integer.MAX_VALUE}) {
                refused("list(" + c + ", " + w + ", 0)", ARGUMENT, x -> x.list(c, w, 0));
                refused("list(" + c + ", " + w + ", -1)", ARGUMENT, x -> x.list(c, w, -1));
            }
        }
    }

    private void slab() {
        for (int a : new int[] {-1, 5 * 1024, 6143, 12 * 1024, 16383, 32 * 1024, 262143, 262144,
            Integer.MIN_VALUE, Integer.MAX_VALUE}) {
            for (int w : new int[] {-1, 0, 3, 4}) {
                refused("slab(" + a + ", " + w + ")", NO_SUCH, x -> x.slab(a, w));
            }
        }
        for (int a : new int[] {0, 5119, 6144, 12287, 16384, 32767}) {
            for (int w : new int[] {-1, 4, Integer.MIN_VALUE, Integer.MAX_VALUE}) {
                refused("slab(" + a + ", " + w + ")", ARGUMENT, x -> x.slab(a, w));
            }
        }
    }

    private void magazine() {
        for (int c : NO_CACHES) {
            refused("magazine(" + c + ", 0, 0)", NO_SUCH, x -> x.magazine(c, 0, 0));
            refused("magazine(" + c + ", 4, 0)", NO_SUCH, x -> x.magazine(c, 4, 0));
            refused("magazine(" + c + ", 0, 3)", NO_SUCH, x -> x.magazine(c, 0, 3));
        }
        for (int c : CACHES) {
            for (int p : NO_PROCESSORS) {
                for (int w = 0; w < 4; w++) {
                    int what = w;
                    refused("magazine(" + c + ", " + p + ", " + w + ")", ARGUMENT, x -> x.magazine(c, p, what));
                }
            }
            for (int w : new int[] {-1, 3, Integer.MIN_VALUE, Integer.MAX_VALUE}) {
                refused("magazine(" + c + ", 0, " + w + ")", ARGUMENT, x -> x.magazine(c, 0, w));
                refused("magazine(" + c + ", 3, " + w + ")", ARGUMENT, x -> x.magazine(c, 3, w));
            }
        }
    }

    private void block() {
        for (int o : new int[] {-1, 7, 32, Integer.MIN_VALUE, Integer.MAX_VALUE}) {
            for (int k : new int[] {-1, 0, 4}) {
                refused("block(" + o + ", " + k + ")", ARGUMENT, x -> x.block(o, k));
            }
        }
    }

    /** Questions, answered or refused, change nothing either; nor does a ninth cache. */
    private static void questionsChangeNothing() {
        Story[] stories = {Stories.fresh(), Stories.toldOnly(), Stories.someOfAll(), Stories.roomInPrevious(),
            Stories.roomInTheDepot(), Stories.eightTold(), Stories.allTaken()};
        for (Story story : stories) {
            for (List<Views.Question> questions : Views.asking()) {
                Views.unchanged(DUE, "asking", story, questions, Views.taking());
            }
        }
        Views.Question ninth = new Views.Question("cache(8, 8, 0, 0)", x -> x.cache(8, 8, 0, 0));
        Views.unchanged(DUE, "a ninth cache", Stories.eightTold(), List.of(ninth), Views.all());
    }
}

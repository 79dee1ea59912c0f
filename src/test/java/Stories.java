/** States in which calls are refused. */
final class Stories {
    /** In the state with some of all: objects that are LIVE and have the tag as their mark. */
    static final int[] LIVE = {2048 + 6 * 112, 2048 + 7 * 112, 2048 + 8 * 112, 4096 + 112, 6144, 10256, 24576};
    /** LIVE ones with another mark than the tag. */
    static final int[] MARKED = {4096, 7344};
    /** In LOADED, in PREVIOUS, and in the three magazines of the DEPOT. */
    static final int[] IN_MAGAZINES = {
        2048 + 4 * 112, 2048 + 112, 1040 + 5 * 112, 1040 + 112, 0, 448, 1040 + 224, 6744, 8200, 8800, 9400};
    /** FREE ones of PARTIAL and of EMPTY slabs, some of which have never been taken. */
    static final int[] FREE = {2048 + 2 * 112, 2048 + 3 * 112, 3088, 3088 + 8 * 112, 4096 + 4 * 112, 10856, 16384, 28672};
    /** Where no object begins: between objects, inside of them, before a colour, behind the last one, in free pages. */
    static final int[] BETWEEN = {2720 + 1, 2720 + 103, 2720 + 104, 2720 + 111, 1024, 3072, 3072 + 8 * 112,
        4096 + 8, 6144 + 599, 6144 + 1800, 6145, 8192, 10240, 12048, 20480 + 1, 24576 + 4095, 24576 + 1024,
        5 * 1024, 12 * 1024, 32 * 1024, 261120, 262143};
    /** No addresses at all. */
    static final int[] OUTSIDE = {-1, -112, -1024, 262144, 263168, Integer.MIN_VALUE, Integer.MAX_VALUE};
    static final int[] BEGINNINGS = joined(LIVE, MARKED, IN_MAGAZINES, FREE);
    static final int[] NOT_LIVE = joined(IN_MAGAZINES, FREE, BETWEEN, OUTSIDE);

    private Stories() {
    }

    static Story fresh() {
        return new Story();
    }

    /**
     * Caches 0, 1 and 3 have slabs of all kinds, magazines and marks; 2 is dropped, 4 was never told.
     * Cache 0 has 9 objects a slab on pages 0 to 4, cache 1 has 3 on pages 6, 8 and 10, cache 3 has 2
     * on pages 16 and 24.
     */
    static Story someOfAll() {
        return new Story()
                .then(x -> x.cache(104, 16, 0, 7))
                .then(x -> x.cache(600, 8, 1, -5))
                .then(x -> x.cache(8, 8, 0, 0))
                .then(x -> x.drop(2))
                .then(x -> x.cache(4096, 64, 3, 9))
                .times(40, x -> x.allocate(0, 0))
                .times(7, x -> x.allocate(1, 0))
                .times(3, x -> x.allocate(3, 0))
                .freeAll(2, 16384, 20480)
                .then(x -> x.flush(2))
                .freeAll(1, smallOnes(0, 22))
                .freeAll(2, smallOnes(22, 24))
                .freeAll(3, smallOnes(27, 36))
                .then(x -> x.flush(3))
                .freeAll(0, 6744)
                .freeAll(3, 8200, 8800, 9400)
                .then(x -> x.mark(7344, 1))
                .then(x -> x.mark(4096, 1));
    }

    /** Caches 0 and 1 are told, but have no slab yet. */
    static Story toldOnly() {
        return new Story()
                .then(x -> x.cache(104, 16, 0, 7))
                .then(x -> x.cache(4096, 8, 3, 7));
    }

    /** Processor 0's magazines are full, the depot has room for one; object 1280 has another mark. */
    static Story roomInTheDepot() {
        Story story = new Story()
                .then(x -> x.cache(64, 8, 3, 7))
                .times(24, x -> x.allocate(0, 0));
        for (int i = 0; i < 16; i++) {
            int address = 64 * i;
            story.then(x -> x.free(address, 0));
        }
        return story.then(x -> x.mark(1280, 8));
    }

    /** Processor 0's LOADED is full, PREVIOUS is empty; object 1280 has another mark. */
    static Story roomInPrevious() {
        return new Story()
                .then(x -> x.cache(64, 8, 3, 7))
                .times(24, x -> x.allocate(0, 0))
                .freeAll(0, 0, 64, 128, 192)
                .then(x -> x.mark(1280, 8));
    }

    /** Eight caches were told; 6 is dropped, the others have an object. */
    static Story eightTold() {
        Story story = new Story();
        for (int number = 0; number < 8; number++) {
            int c = number;
            story.then(x -> x.cache(256, 8, 0, c));
            story.then(x -> x.allocate(c, c % 4));
        }
        return story.freeAll(2, 6144).then(x -> x.drop(6));
    }

    /** No page is free; one object is in a magazine, and there was no object once. */
    static Story allTaken() {
        return new Story()
                .then(x -> x.cache(4096, 8, 2, 1))
                .then(x -> x.cache(1024, 8, 0, 2))
                .times(64, x -> x.allocate(0, 0))
                .then(x -> x.allocate(1, 0))
                .freeAll(3, 4096 * 9);
    }

    /** The addresses of cache 0's objects in the order in which they are first taken. */
    private static int[] smallOnes(int from, int to) {
        int[] addresses = new int[to - from];
        for (int i = from; i < to; i++) {
            int page = i / 9;
            addresses[i - from] = 1024 * page + 16 * (page % 2) + 112 * (i % 9);
        }
        return addresses;
    }

    private static int[] joined(int[]... rows) {
        int length = 0;
        for (int[] row : rows) {
            length += row.length;
        }
        int[] all = new int[length];
        int at = 0;
        for (int[] row : rows) {
            for (int each : row) {
                all[at++] = each;
            }
        }
        return all;
    }
}

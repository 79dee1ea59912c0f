import java.util.Arrays;
import java.util.NoSuchElementException;

/**
 * Memory by the page, the slab and the object: blocks that are halved and put together again,
 * slabs of objects of one size that begin at other colours in turn, objects that are made once
 * and keep their tag, and magazines of free ones for each processor.
 */
public final class SlabHouse {
    public static final int NONE = -1;

    private static final int PAGES = 256;
    private static final int PAGE_BYTES = 1024;
    private static final int MEMORY_BYTES = PAGES * PAGE_BYTES;
    private static final int TOP_ORDER = 6;

    private static final int CACHES = 8;
    private static final int LEAST_SIZE = 8;
    private static final int TOP_SIZE = 4096;
    private static final int TOP_SLAB_ORDER = 3;

    private static final int PROCESSORS = 4;
    private static final int MAGAZINE_ROOM = 4;
    private static final int DEPOT_ROOM = 3;

    private static final int FULL = 0;
    private static final int PARTIAL = 1;
    private static final int EMPTY = 2;
    private static final int KINDS = 3;

    private final Blocks blocks;
    /** For each page the slab that it is a part of; null without one. */
    private final Slab[] slabAt;
    /** By their numbers; null where none was told yet, or where it was dropped. */
    private final Cache[] caches;
    private int told;

    public SlabHouse() {
        blocks = new Blocks();
        slabAt = new Slab[PAGES];
        caches = new Cache[CACHES];
        told = 0;
    }

    public int cache(int size, int align, int order, int tag) throws IllegalArgumentException {
        if (!isSize(size) || !isAlign(align) || order < 0 || order > TOP_SLAB_ORDER) {
            throw new IllegalArgumentException("size, align or order is not as said");
        }
        if (strideOf(size, align) > PAGE_BYTES << order) {
            throw new IllegalArgumentException("a slab would have no object");
        }
        if (told >= CACHES) {
            return NONE;
        }
        int number = told;
        told++;
        caches[number] = new Cache(number, size, align, order, tag);
        return number;
    }

    public int drop(int cache) throws NoSuchElementException, IllegalStateException {
        Cache dropped = cacheNumbered(cache);
        if (dropped == null) {
            throw new NoSuchElementException("no such cache");
        }
        if (dropped.live > 0) {
            throw new IllegalStateException("an object of the cache is live");
        }
        // What its magazines hold needs no way back: without live objects every slab goes.
        int given = 0;
        for (int page = 0; page < PAGES; page++) {
            Slab slab = slabAt[page];
            if (slab != null && slab.owner == dropped) {
                given += giveBack(slab);
            }
        }
        caches[dropped.number] = null;
        return given;
    }

    public int allocate(int cache, int processor) throws NoSuchElementException, IllegalArgumentException {
        Cache from = cacheNumbered(cache);
        if (from == null) {
            throw new NoSuchElementException("no such cache");
        }
        if (!isProcessor(processor)) {
            throw new IllegalArgumentException("no such processor");
        }
        int address = from.stock.takeFor(processor);
        if (address == NONE) {
            address = takeFromSlabs(from);
        }
        if (address == NONE) {
            from.failures++;
            return NONE;
        }
        makeLive(address);
        return address;
    }

    public int free(int address, int processor)
            throws NoSuchElementException, IllegalArgumentException, IllegalStateException {
        Slab slab = slabAround(address);
        int object = slab == null ? NONE : slab.liveBeginningAt(address);
        if (slab == null || object == NONE) {
            throw new NoSuchElementException("no live object begins there");
        }
        if (!isProcessor(processor)) {
            throw new IllegalArgumentException("no such processor");
        }
        Cache owner = slab.owner;
        if (slab.marks[object] != owner.tag) {
            throw new IllegalStateException("the object's mark is not the tag");
        }
        slab.live[object] = false;
        owner.live--;
        if (!owner.stock.putFor(processor, address)) {
            slab.putBack(object);
        }
        return owner.number;
    }

    public int mark(int address, int mark) throws NoSuchElementException {
        Slab slab = slabAround(address);
        int object = slab == null ? NONE : slab.liveBeginningAt(address);
        if (slab == null || object == NONE) {
            throw new NoSuchElementException("no live object begins there");
        }
        int was = slab.marks[object];
        slab.marks[object] = mark;
        return was;
    }

    public int flush(int processor) throws IllegalArgumentException {
        if (!isProcessor(processor)) {
            throw new IllegalArgumentException("no such processor");
        }
        int back = 0;
        for (int number = 0; number < CACHES; number++) {
            Cache each = caches[number];
            if (each != null) {
                back += unload(each.stock.loaded[processor]);
                back += unload(each.stock.previous[processor]);
            }
        }
        return back;
    }

    public int empty(int cache) throws NoSuchElementException {
        Cache emptied = cacheNumbered(cache);
        if (emptied == null) {
            throw new NoSuchElementException("no such cache");
        }
        Stock stock = emptied.stock;
        int back = 0;
        for (int place = DEPOT_ROOM - 1; place >= 0; place--) {
            // Behind the depot's last magazine only empty ones are kept.
            back += unload(stock.depot[place]);
        }
        stock.inDepot = 0;
        return back;
    }

    public int reap() {
        return giveBackEmptySlabs();
    }

    public int cacheOf(int address) {
        Slab slab = slabAround(address);
        return slab == null ? NONE : slab.owner.number;
    }

    public int objectOf(int address) {
        Slab slab = slabAround(address);
        return slab == null ? NONE : slab.liveAround(address);
    }

    public int about(int cache, int what) throws NoSuchElementException, IllegalArgumentException {
        Cache asked = cacheNumbered(cache);
        if (asked == null) {
            throw new NoSuchElementException("no such cache");
        }
        switch (what) {
            case 0:
                return asked.stride;
            case 1:
                return asked.perSlab;
            case 2:
                return asked.colours;
            case 3:
                return asked.nextColour;
            case 4:
                return asked.slabs;
            case 5:
                return asked.live;
            case 6:
                return asked.stock.objects();
            case 7:
                return asked.failures;
            default:
                throw new IllegalArgumentException("no such thing to ask of a cache");
        }
    }

    public int list(int cache, int which, int k) throws NoSuchElementException, IllegalArgumentException {
        Cache asked = cacheNumbered(cache);
        if (asked == null) {
            throw new NoSuchElementException("no such cache");
        }
        if (which < 0 || which >= KINDS) {
            throw new IllegalArgumentException("no such list");
        }
        Slab slab = asked.lists[which].at(k);
        return slab == null ? NONE : slab.firstByte();
    }

    public int slab(int address, int what) throws NoSuchElementException, IllegalArgumentException {
        Slab asked = slabAround(address);
        if (asked == null) {
            throw new NoSuchElementException("no slab is there");
        }
        switch (what) {
            case 0:
                return asked.firstByte();
            case 1:
                return asked.colour;
            case 2:
                return asked.marks.length - asked.frees;
            case 3:
                return asked.firstFree();
            default:
                throw new IllegalArgumentException("no such thing to ask of a slab");
        }
    }

    public int magazine(int cache, int processor, int what)
            throws NoSuchElementException, IllegalArgumentException {
        Cache asked = cacheNumbered(cache);
        if (asked == null) {
            throw new NoSuchElementException("no such cache");
        }
        if (!isProcessor(processor)) {
            throw new IllegalArgumentException("no such processor");
        }
        switch (what) {
            case 0:
                return asked.stock.loaded[processor].count;
            case 1:
                return asked.stock.previous[processor].count;
            case 2:
                return asked.stock.inDepot;
            default:
                throw new IllegalArgumentException("no such thing to ask of magazines");
        }
    }

    public int block(int order, int k) throws IllegalArgumentException {
        if (order < 0 || order > TOP_ORDER) {
            throw new IllegalArgumentException("no such order");
        }
        return blocks.freeOne(order, k);
    }

    public int pages(int what) {
        if (what == 0) {
            return blocks.freePages();
        }
        if (what == 1) {
            return PAGES - blocks.freePages();
        }
        return NONE;
    }

    private static boolean isSize(int size) {
        return size >= LEAST_SIZE && size <= TOP_SIZE && size % 8 == 0;
    }

    private static boolean isAlign(int align) {
        return align == 8 || align == 16 || align == 32 || align == 64;
    }

    private static boolean isProcessor(int processor) {
        return processor >= 0 && processor < PROCESSORS;
    }

    /** SIZE rounded up; an ALIGN is a power of two, so a mask does it. */
    private static int strideOf(int size, int align) {
        return (size + align - 1) & -align;
    }

    private Cache cacheNumbered(int number) {
        return number >= 0 && number < CACHES ? caches[number] : null;
    }

    private Slab slabAround(int address) {
        return address >= 0 && address < MEMORY_BYTES ? slabAt[address / PAGE_BYTES] : null;
    }

    /** FROM THE SLABS: the address of an object that is FREE no more; NONE if there is none. */
    private int takeFromSlabs(Cache cache) {
        Slab slab = cache.lists[PARTIAL].first;
        if (slab == null) {
            slab = cache.lists[EMPTY].first;
        }
        if (slab == null) {
            slab = makeSlab(cache);
        }
        return slab == null ? NONE : slab.takeFirstFree();
    }

    private Slab makeSlab(Cache cache) {
        int page = blocks.take(cache.order);
        if (page == NONE) {
            giveBackEmptySlabs();
            page = blocks.take(cache.order);
        }
        if (page == NONE) {
            return null;
        }
        Slab made = new Slab(cache, page, cache.nextColour);
        cache.colourTheNext();
        cache.slabs++;
        cache.lists[EMPTY].addFirst(made);
        settle(made, made);
        return made;
    }

    /** Gives one slab back, whatever it holds: how many pages it had. */
    private int giveBack(Slab slab) {
        Cache owner = slab.owner;
        owner.lists[slab.kind()].remove(slab);
        owner.slabs--;
        settle(slab, null);
        blocks.give(slab.page, owner.order);
        return 1 << owner.order;
    }

    private int giveBackEmptySlabs() {
        int given = 0;
        for (int number = 0; number < CACHES; number++) {
            Cache each = caches[number];
            Slab slab = each == null ? null : each.lists[EMPTY].first;
            while (slab != null) {
                Slab next = slab.behind;
                given += giveBack(slab);
                slab = next;
            }
        }
        return given;
    }

    /** Writes who lives on the pages of a slab: the slab itself, or null when it is gone. */
    private void settle(Slab slab, Slab whose) {
        int end = Math.min(slab.page + (1 << slab.owner.order), PAGES);
        for (int page = slab.page; page < end; page++) {
            slabAt[page] = whose;
        }
    }

    private void makeLive(int address) {
        Slab slab = slabAround(address);
        int object = slab == null ? NONE : slab.numberAround(address);
        if (slab != null && object != NONE) {
            slab.live[object] = true;
            slab.owner.live++;
        }
    }

    /** Puts all that a magazine has back to the slabs, what came last first: how many objects. */
    private int unload(Magazine magazine) {
        int had = magazine.count;
        for (int left = had; left > 0; left--) {
            int address = magazine.takeLast();
            Slab slab = slabAround(address);
            if (slab != null) {
                slab.putBack(slab.numberAround(address));
            }
        }
        return had;
    }

    /** The pages that are free, as blocks. */
    private static final class Blocks {
        /** The order of the free block that begins at a page; NONE where none begins. */
        final int[] freeOrder;

        Blocks() {
            freeOrder = new int[PAGES];
            Arrays.fill(freeOrder, NONE);
            for (int page = 0; page < PAGES; page += 1 << TOP_ORDER) {
                freeOrder[page] = TOP_ORDER;
            }
        }

        /** The page of free block k of an order, the lowest first; NONE if there is none such. */
        int freeOne(int order, int k) {
            int seen = 0;
            for (int page = 0; page < PAGES; page++) {
                if (freeOrder[page] == order) {
                    if (seen == k) {
                        return page;
                    }
                    seen++;
                }
            }
            return NONE;
        }

        int freePages() {
            int sum = 0;
            for (int page = 0; page < PAGES; page++) {
                if (freeOrder[page] != NONE) {
                    sum += 1 << freeOrder[page];
                }
            }
            return sum;
        }

        /** TAKING: the first page; NONE if no free block is large enough. */
        int take(int order) {
            for (int found = order; found <= TOP_ORDER; found++) {
                int page = freeOne(found, 0);
                if (page != NONE) {
                    setFree(page, NONE);
                    for (int half = found - 1; half >= order; half--) {
                        setFree(page + (1 << half), half);
                    }
                    return page;
                }
            }
            return NONE;
        }

        /** GIVING back: with its other half, as long as that is free, it is one block again. */
        void give(int page, int order) {
            int begin = page;
            int grown = order;
            while (grown < TOP_ORDER && isFree(begin ^ (1 << grown), grown)) {
                setFree(begin ^ (1 << grown), NONE);
                begin &= ~(1 << grown);
                grown++;
            }
            setFree(begin, grown);
        }

        private boolean isFree(int page, int order) {
            return page >= 0 && page < PAGES && freeOrder[page] == order;
        }

        private void setFree(int page, int order) {
            if (page >= 0 && page < PAGES) {
                freeOrder[page] = order;
            }
        }
    }

    /** What was told of a cache, and what it has. */
    private static final class Cache {
        final int number;
        final int size;
        final int align;
        final int order;
        final int tag;
        final int stride;
        final int perSlab;
        final int colours;
        int nextColour;
        int slabs;
        int live;
        int failures;
        final SlabList[] lists;
        final Stock stock;

        Cache(int number, int size, int align, int order, int tag) {
            this.number = number;
            this.size = size;
            this.align = align;
            this.order = order;
            this.tag = tag;
            int bytes = PAGE_BYTES << order;
            stride = strideOf(size, align);
            perSlab = stride > 0 ? bytes / stride : 0;
            colours = align > 0 ? (bytes - perSlab * stride) / align + 1 : 1;
            lists = new SlabList[KINDS];
            for (int kind = 0; kind < KINDS; kind++) {
                lists[kind] = new SlabList();
            }
            stock = new Stock();
        }

        void colourTheNext() {
            nextColour++;
            if (nextColour >= colours) {
                nextColour = 0;
            }
        }

        /** Only a slab that is of another kind now comes into a list; else it keeps its place. */
        void relist(Slab slab, int was) {
            int is = slab.kind();
            if (is != was) {
                lists[was].remove(slab);
                lists[is].addFirst(slab);
            }
        }
    }

    /** A block of pages with objects of one cache. */
    private static final class Slab {
        final Cache owner;
        final int page;
        final int colour;
        final int[] marks;
        final boolean[] live;
        /** The numbers of the FREE objects; the row's first one stands last, so that it grows there. */
        final int[] freeRow;
        int frees;
        Slab before;
        Slab behind;

        Slab(Cache owner, int page, int colour) {
            this.owner = owner;
            this.page = page;
            this.colour = colour;
            int objects = Math.max(owner.perSlab, 0);
            marks = new int[objects];
            Arrays.fill(marks, owner.tag);
            live = new boolean[objects];
            freeRow = new int[objects];
            for (int i = 0; i < objects; i++) {
                freeRow[i] = objects - 1 - i;
            }
            frees = objects;
        }

        int kind() {
            if (frees == 0) {
                return FULL;
            }
            return frees == freeRow.length ? EMPTY : PARTIAL;
        }

        int firstByte() {
            return page * PAGE_BYTES;
        }

        int addressOf(int object) {
            return firstByte() + colour * owner.align + object * owner.stride;
        }

        /** The number of the object in whose STRIDE bytes an address lies; NONE without one. */
        int numberAround(int address) {
            int offset = address - addressOf(0);
            if (offset < 0 || owner.stride <= 0) {
                return NONE;
            }
            int object = offset / owner.stride;
            return object < marks.length ? object : NONE;
        }

        /** The number of the LIVE object that begins at an address; NONE without one. */
        int liveBeginningAt(int address) {
            int object = numberAround(address);
            return object != NONE && live[object] && addressOf(object) == address ? object : NONE;
        }

        /** The address of the LIVE object in whose SIZE bytes an address lies; NONE without one. */
        int liveAround(int address) {
            int object = numberAround(address);
            if (object == NONE || !live[object]) {
                return NONE;
            }
            int begin = addressOf(object);
            return address - begin < owner.size ? begin : NONE;
        }

        int firstFree() {
            return frees > 0 && frees <= freeRow.length ? freeRow[frees - 1] : NONE;
        }

        /** The address of the first FREE object, which is that no more; NONE without one. */
        int takeFirstFree() {
            int object = firstFree();
            if (object == NONE) {
                return NONE;
            }
            int was = kind();
            frees--;
            owner.relist(this, was);
            return addressOf(object);
        }

        void putBack(int object) {
            if (object == NONE || frees < 0 || frees >= freeRow.length) {
                return;
            }
            int was = kind();
            freeRow[frees] = object;
            frees++;
            owner.relist(this, was);
        }
    }

    /** The slabs of one kind that a cache has, as a chain. */
    private static final class SlabList {
        Slab first;

        void addFirst(Slab slab) {
            slab.before = null;
            slab.behind = first;
            if (first != null) {
                first.before = slab;
            }
            first = slab;
        }

        void remove(Slab slab) {
            if (slab.before == null) {
                first = slab.behind;
            } else {
                slab.before.behind = slab.behind;
            }
            if (slab.behind != null) {
                slab.behind.before = slab.before;
            }
            slab.before = null;
            slab.behind = null;
        }

        Slab at(int k) {
            if (k < 0) {
                return null;
            }
            Slab slab = first;
            for (int i = 0; i < k && slab != null; i++) {
                slab = slab.behind;
            }
            return slab;
        }
    }

    /** The addresses of up to four objects. */
    private static final class Magazine {
        final int[] addresses;
        int count;

        Magazine() {
            addresses = new int[MAGAZINE_ROOM];
        }

        boolean isEmpty() {
            return count <= 0;
        }

        boolean isFull() {
            return count >= MAGAZINE_ROOM;
        }

        boolean add(int address) {
            if (count < 0 || count >= MAGAZINE_ROOM) {
                return false;
            }
            addresses[count] = address;
            count++;
            return true;
        }

        int takeLast() {
            if (count <= 0 || count > MAGAZINE_ROOM) {
                return NONE;
            }
            count--;
            return addresses[count];
        }
    }

    /**
     * The magazines of one cache. They are made once and only change places: behind its full ones
     * the depot keeps the empty ones for which they were changed.
     */
    private static final class Stock {
        final Magazine[] loaded;
        final Magazine[] previous;
        final Magazine[] depot;
        int inDepot;

        Stock() {
            loaded = new Magazine[PROCESSORS];
            previous = new Magazine[PROCESSORS];
            for (int processor = 0; processor < PROCESSORS; processor++) {
                loaded[processor] = new Magazine();
                previous[processor] = new Magazine();
            }
            depot = new Magazine[DEPOT_ROOM];
            for (int place = 0; place < DEPOT_ROOM; place++) {
                depot[place] = new Magazine();
            }
        }

        /** ALLOCATING, as far as magazines go: an address; NONE if they have none. */
        int takeFor(int processor) {
            if (loaded[processor].isEmpty()) {
                if (!previous[processor].isEmpty()) {
                    changePlaces(processor);
                } else if (inDepot > 0 && inDepot <= DEPOT_ROOM) {
                    loadFromDepot(processor);
                }
            }
            return loaded[processor].takeLast();
        }

        /** FREEING, as far as magazines go: whether the object came into one. */
        boolean putFor(int processor, int address) {
            if (loaded[processor].isFull()) {
                if (!previous[processor].isFull()) {
                    changePlaces(processor);
                } else if (inDepot >= 0 && inDepot < DEPOT_ROOM) {
                    sendToDepot(processor);
                }
            }
            return loaded[processor].add(address);
        }

        int objects() {
            int sum = 0;
            for (int processor = 0; processor < PROCESSORS; processor++) {
                sum += loaded[processor].count + previous[processor].count;
            }
            for (int place = 0; place < DEPOT_ROOM; place++) {
                sum += depot[place].count;
            }
            return sum;
        }

        private void changePlaces(int processor) {
            Magazine was = loaded[processor];
            loaded[processor] = previous[processor];
            previous[processor] = was;
        }

        private void loadFromDepot(int processor) {
            inDepot--;
            Magazine bare = loaded[processor];
            loaded[processor] = depot[inDepot];
            depot[inDepot] = bare;
        }

        private void sendToDepot(int processor) {
            Magazine bare = depot[inDepot];
            depot[inDepot] = previous[processor];
            inDepot++;
            previous[processor] = loaded[processor];
            loaded[processor] = bare;
        }
    }
}

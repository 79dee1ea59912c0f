import java.util.ArrayDeque;
import java.util.ArrayList;
import java.util.Deque;
import java.util.List;
import java.util.NoSuchElementException;
import java.util.TreeMap;

/**
 * The document once more, sentence by sentence and with the Java library, for comparing answers:
 * slow, and with its state held in another way than SlabHouse holds it.
 */
final class PlainHouse {
    private static final class Thing {
        PlainSlab slab;
        int number;
        int address;
        int mark;
        boolean live;
    }

    private static final class PlainSlab {
        PlainCache cache;
        int page;
        int colour;
        List<Thing> things = new ArrayList<>();
        List<Thing> free = new ArrayList<>();

        int which() {
            return free.isEmpty() ? 0 : free.size() == things.size() ? 2 : 1;
        }
    }

    private static final class PlainCache {
        int number;
        int size;
        int align;
        int order;
        int tag;
        int stride;
        int count;
        int colours;
        int next = 0;
        int lacks = 0;
        List<List<PlainSlab>> lists = List.of(new ArrayList<>(), new ArrayList<>(), new ArrayList<>());
        List<Deque<Thing>> loaded = new ArrayList<>();
        List<Deque<Thing>> previous = new ArrayList<>();
        Deque<Deque<Thing>> depot = new ArrayDeque<>();

        List<PlainSlab> slabs() {
            List<PlainSlab> all = new ArrayList<>();
            lists.forEach(all::addAll);
            return all;
        }

        int live() {
            return (int) slabs().stream().flatMap(s -> s.things.stream()).filter(t -> t.live).count();
        }
    }

    /** Free blocks by their first pages, with their orders. */
    private final TreeMap<Integer, Integer> blocks = new TreeMap<>();
    private final TreeMap<Integer, PlainCache> caches = new TreeMap<>();
    private int told = 0;

    PlainHouse() {
        for (int i = 0; i < 4; i++) {
            blocks.put(64 * i, 6);
        }
    }

    int cache(int size, int align, int order, int tag) {
        if (size < 8 || size > 4096 || size % 8 != 0 || !List.of(8, 16, 32, 64).contains(align)
                || order < 0 || order > 3) {
            throw new IllegalArgumentException();
        }
        int stride = size;
        while (stride % align != 0) {
            stride++;
        }
        int bytes = 1024 * (int) Math.pow(2, order);
        if (bytes / stride == 0) {
            throw new IllegalArgumentException();
        }
        if (told == 8) {
            return -1;
        }
        PlainCache c = new PlainCache();
        c.number = told++;
        c.size = size;
        c.align = align;
        c.order = order;
        c.tag = tag;
        c.stride = stride;
        c.count = bytes / stride;
        c.colours = bytes % stride / align + 1;
        for (int i = 0; i < 4; i++) {
            c.loaded.add(new ArrayDeque<>());
            c.previous.add(new ArrayDeque<>());
        }
        caches.put(c.number, c);
        return c.number;
    }

    int drop(int cache) {
        PlainCache c = known(cache);
        if (c.live() > 0) {
            throw new IllegalStateException();
        }
        empty(cache);
        for (int i = 0; i < 4; i++) {
            back(c.loaded.get(i));
            back(c.previous.get(i));
        }
        List<PlainSlab> all = c.slabs();
        all.sort((a, b) -> a.page - b.page);
        all.forEach(this::giveBack);
        caches.remove(cache);
        return all.size() * (1 << c.order);
    }

    int allocate(int cache, int processor) {
        PlainCache c = known(cache);
        processor(processor);
        if (c.loaded.get(processor).isEmpty() && !c.previous.get(processor).isEmpty()) {
            c.previous.set(processor, c.loaded.set(processor, c.previous.get(processor)));
        }
        if (c.loaded.get(processor).isEmpty() && c.previous.get(processor).isEmpty() && !c.depot.isEmpty()) {
            c.loaded.set(processor, c.depot.pop());
        }
        Thing t = c.loaded.get(processor).isEmpty() ? fromSlabs(c) : c.loaded.get(processor).pop();
        if (t == null) {
            c.lacks++;
            return -1;
        }
        t.live = true;
        return t.address;
    }

    int free(int address, int processor) {
        Thing t = liveAt(address);
        processor(processor);
        PlainCache c = t.slab.cache;
        if (t.mark != c.tag) {
            throw new IllegalStateException();
        }
        t.live = false;
        if (c.loaded.get(processor).size() == 4 && c.previous.get(processor).size() < 4) {
            c.previous.set(processor, c.loaded.set(processor, c.previous.get(processor)));
        }
        if (c.loaded.get(processor).size() == 4 && c.previous.get(processor).size() == 4 && c.depot.size() < 3) {
            c.depot.push(c.previous.get(processor));
            c.previous.set(processor, c.loaded.get(processor));
            c.loaded.set(processor, new ArrayDeque<>());
        }
        if (c.loaded.get(processor).size() < 4) {
            c.loaded.get(processor).push(t);
        } else {
            back(t);
        }
        return c.number;
    }

    int mark(int address, int mark) {
        Thing t = liveAt(address);
        int was = t.mark;
        t.mark = mark;
        return was;
    }

    int flush(int processor) {
        processor(processor);
        int sum = 0;
        for (PlainCache c : caches.values()) {
            sum += back(c.loaded.get(processor)) + back(c.previous.get(processor));
        }
        return sum;
    }

    int empty(int cache) {
        PlainCache c = known(cache);
        int sum = 0;
        while (!c.depot.isEmpty()) {
            sum += back(c.depot.pop());
        }
        return sum;
    }

    int reap() {
        int sum = 0;
        for (PlainCache c : caches.values()) {
            for (PlainSlab s : new ArrayList<>(c.lists.get(2))) {
                giveBack(s);
                sum += 1 << c.order;
            }
        }
        return sum;
    }

    int cacheOf(int address) {
        PlainSlab s = around(address);
        return s == null ? -1 : s.cache.number;
    }

    int objectOf(int address) {
        for (PlainCache c : caches.values()) {
            for (PlainSlab s : c.slabs()) {
                for (Thing t : s.things) {
                    if (t.live && address >= t.address && address < t.address + c.size) {
                        return t.address;
                    }
                }
            }
        }
        return -1;
    }

    int about(int cache, int what) {
        PlainCache c = known(cache);
        if (what < 0 || what > 7) {
            throw new IllegalArgumentException();
        }
        int held = 0;
        for (PlainSlab s : c.slabs()) {
            held += s.things.size() - s.free.size();
        }
        return new int[] {c.stride, c.count, c.colours, c.next, c.slabs().size(), c.live(),
            held - c.live(), c.lacks}[what];
    }

    int list(int cache, int which, int k) {
        PlainCache c = known(cache);
        if (which < 0 || which > 2) {
            throw new IllegalArgumentException();
        }
        List<PlainSlab> list = c.lists.get(which);
        return k < 0 || k >= list.size() ? -1 : list.get(k).page * 1024;
    }

    int slab(int address, int what) {
        PlainSlab s = around(address);
        if (s == null) {
            throw new NoSuchElementException();
        }
        if (what < 0 || what > 3) {
            throw new IllegalArgumentException();
        }
        return new int[] {s.page * 1024, s.colour, s.things.size() - s.free.size(),
            s.free.isEmpty() ? -1 : s.free.get(0).number}[what];
    }

    int magazine(int cache, int processor, int what) {
        PlainCache c = known(cache);
        processor(processor);
        if (what < 0 || what > 2) {
            throw new IllegalArgumentException();
        }
        return new int[] {c.loaded.get(processor).size(), c.previous.get(processor).size(), c.depot.size()}[what];
    }

    int block(int order, int k) {
        if (order < 0 || order > 6) {
            throw new IllegalArgumentException();
        }
        List<Integer> found = new ArrayList<>();
        blocks.forEach((page, of) -> {
            if (of == order) {
                found.add(page);
            }
        });
        return k < 0 || k >= found.size() ? -1 : found.get(k);
    }

    int pages(int what) {
        int held = 0;
        for (PlainCache c : caches.values()) {
            held += c.slabs().size() << c.order;
        }
        return what == 0 ? 256 - held : what == 1 ? held : -1;
    }

    private PlainCache known(int cache) {
        if (!caches.containsKey(cache)) {
            throw new NoSuchElementException();
        }
        return caches.get(cache);
    }

    private static void processor(int processor) {
        if (processor < 0 || processor > 3) {
            throw new IllegalArgumentException();
        }
    }

    private PlainSlab around(int address) {
        for (PlainCache c : caches.values()) {
            for (PlainSlab s : c.slabs()) {
                long begin = s.page * 1024L;
                if (address >= begin && address < begin + (1024L << c.order)) {
                    return s;
                }
            }
        }
        return null;
    }

    private Thing liveAt(int address) {
        PlainSlab s = around(address);
        if (s != null) {
            for (Thing t : s.things) {
                if (t.live && t.address == address) {
                    return t;
                }
            }
        }
        throw new NoSuchElementException();
    }

    private Thing fromSlabs(PlainCache c) {
        if (c.lists.get(1).isEmpty() && c.lists.get(2).isEmpty() && !newSlab(c)) {
            return null;
        }
        PlainSlab s = c.lists.get(1).isEmpty() ? c.lists.get(2).get(0) : c.lists.get(1).get(0);
        int was = s.which();
        Thing t = s.free.remove(0);
        changed(s, was);
        return t;
    }

    private boolean newSlab(PlainCache c) {
        int page = take(c.order);
        if (page < 0) {
            reap();
            page = take(c.order);
        }
        if (page < 0) {
            return false;
        }
        PlainSlab s = new PlainSlab();
        s.cache = c;
        s.page = page;
        s.colour = c.next;
        c.next = (c.next + 1) % c.colours;
        for (int i = 0; i < c.count; i++) {
            Thing t = new Thing();
            t.slab = s;
            t.number = i;
            t.address = page * 1024 + s.colour * c.align + i * c.stride;
            t.mark = c.tag;
            s.things.add(t);
            s.free.add(t);
        }
        c.lists.get(2).add(0, s);
        return true;
    }

    private void back(Thing t) {
        int was = t.slab.which();
        t.slab.free.add(0, t);
        changed(t.slab, was);
    }

    private int back(Deque<Thing> magazine) {
        int sum = magazine.size();
        while (!magazine.isEmpty()) {
            back(magazine.pop());
        }
        return sum;
    }

    private static void changed(PlainSlab s, int was) {
        if (s.which() != was) {
            s.cache.lists.get(was).remove(s);
            s.cache.lists.get(s.which()).add(0, s);
        }
    }

    private void giveBack(PlainSlab s) {
        s.cache.lists.get(s.which()).remove(s);
        give(s.page, s.cache.order);
    }

    private int take(int order) {
        for (int of = order; of <= 6; of++) {
            int page = block(of, 0);
            if (page >= 0) {
                halve(page, of, order);
                return page;
            }
        }
        return -1;
    }

    private void halve(int page, int of, int order) {
        blocks.remove(page);
        if (of > order) {
            blocks.put(page + (1 << (of - 1)), of - 1);
            halve(page, of - 1, order);
        }
    }

    private void give(int page, int order) {
        int whole = page - page % (2 << order);
        int other = page == whole ? page + (1 << order) : whole;
        if (order < 6 && Integer.valueOf(order).equals(blocks.get(other))) {
            blocks.remove(other);
            give(whole, order + 1);
        } else {
            blocks.put(page, order);
        }
    }
}

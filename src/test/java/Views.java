import java.util.ArrayList;
import java.util.List;

/**
 * All that can be seen of an object, in views that each have few enough calls for an object of its
 * own: what the questions answer, and what taking objects again and again brings to light (the rows
 * of FREE objects, what the magazines hold, the colours, the marks, the next number of a cache).
 */
final class Views {
    /** A call of a view, and how it is written. */
    record Question(String name, Story.Step step) {
        String answer(SlabHouse x) {
            return Due.outcome(() -> step.on(x));
        }
    }

    private static final int PAGES_SEEN = 40;

    private Views() {
    }

    /** The views that change nothing. */
    static List<List<Question>> asking() {
        return List.of(counts(), lists(), slabs(), places());
    }

    /** The views that take what there is. */
    static List<List<Question>> taking() {
        List<List<Question>> views = new ArrayList<>();
        views.add(numbers());
        views.add(marks());
        for (int c = 0; c < 8; c++) {
            views.add(taken(c));
        }
        return views;
    }

    static List<List<Question>> all() {
        List<List<Question>> views = new ArrayList<>(asking());
        views.addAll(taking());
        return views;
    }

    /** Tells the story to a new object, lets a call go before, and writes down what a view shows. */
    static List<String> see(Due due, Story story, List<Question> before, List<Question> view) {
        due.holds("more calls than an object is promised for",
                story.length() + before.size() + view.size() <= Story.CALLS);
        SlabHouse x = story.told();
        for (Question question : before) {
            question.answer(x);
        }
        List<String> seen = new ArrayList<>();
        for (Question question : view) {
            seen.add(question.name() + " = " + question.answer(x));
        }
        return seen;
    }

    /** Whether some calls, of which no one should change anything, change nothing that can be seen. */
    static void unchanged(Due due, String what, Story story, List<Question> calls, List<List<Question>> views) {
        for (List<Question> view : views) {
            List<String> want = see(due, story, List.of(), view);
            List<String> got = see(due, story, calls, view);
            for (int i = 0; i < want.size(); i++) {
                due.holds(what + " changed " + want.get(i) + " to " + got.get(i), want.get(i).equals(got.get(i)));
            }
        }
    }

    private static List<Question> counts() {
        List<Question> view = new ArrayList<>();
        for (int number = 0; number < 8; number++) {
            int c = number;
            for (int what = 0; what < 8; what++) {
                int w = what;
                view.add(new Question("about(" + c + ", " + w + ")", x -> x.about(c, w)));
            }
            for (int index = 0; index < 12; index++) {
                int p = index / 3;
                int w = index % 3;
                view.add(new Question("magazine(" + c + ", " + p + ", " + w + ")", x -> x.magazine(c, p, w)));
            }
        }
        view.add(new Question("pages(0)", x -> x.pages(0)));
        view.add(new Question("pages(1)", x -> x.pages(1)));
        for (int index = 0; index < 42; index++) {
            int o = index / 6;
            int k = index % 6;
            view.add(new Question("block(" + o + ", " + k + ")", x -> x.block(o, k)));
        }
        return view;
    }

    private static List<Question> lists() {
        List<Question> view = new ArrayList<>();
        for (int index = 0; index < 8 * 3 * 8; index++) {
            int c = index / 24;
            int w = index / 8 % 3;
            int k = index % 8;
            view.add(new Question("list(" + c + ", " + w + ", " + k + ")", x -> x.list(c, w, k)));
        }
        return view;
    }

    private static List<Question> slabs() {
        List<Question> view = new ArrayList<>();
        for (int index = 0; index < PAGES_SEEN * 4; index++) {
            int a = index / 4 * 1024;
            int w = index % 4;
            view.add(new Question("slab(" + a + ", " + w + ")", x -> x.slab(a, w)));
        }
        return view;
    }

    private static List<Question> places() {
        List<Question> view = new ArrayList<>();
        for (int page = 0; page < PAGES_SEEN; page++) {
            int a = page * 1024;
            view.add(new Question("cacheOf(" + a + ")", x -> x.cacheOf(a)));
            for (int part = 0; part < 5; part++) {
                int in = a + 16 + 112 * part;
                view.add(new Question("objectOf(" + in + ")", x -> x.objectOf(in)));
            }
        }
        return view;
    }

    private static List<Question> numbers() {
        List<Question> view = new ArrayList<>();
        for (int i = 0; i < 9; i++) {
            view.add(new Question("cache(8, 8, 0, 0)", x -> x.cache(8, 8, 0, 0)));
        }
        return view;
    }

    /** Of every place where an object of Stories.someOfAll begins. */
    private static List<Question> marks() {
        List<Question> view = new ArrayList<>();
        for (int address : Stories.BEGINNINGS) {
            view.add(new Question("mark(" + address + ", 77)", x -> x.mark(address, 77)));
        }
        return view;
    }

    private static List<Question> taken(int c) {
        List<Question> view = new ArrayList<>();
        for (int index = 0; index < 4 * 26; index++) {
            int p = index / 26;
            view.add(new Question("allocate(" + c + ", " + p + ")", x -> x.allocate(c, p)));
        }
        view.add(new Question("about(" + c + ", 3)", x -> x.about(c, 3)));
        view.add(new Question("about(" + c + ", 7)", x -> x.about(c, 7)));
        return view;
    }
}

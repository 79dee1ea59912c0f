import java.io.IOException;
import java.lang.reflect.Field;
import java.lang.reflect.Method;
import java.lang.reflect.Modifier;
import java.nio.file.Files;
import java.nio.file.Path;
import java.util.ArrayList;
import java.util.List;
import java.util.Map;
import java.util.Set;
import java.util.TreeSet;

/** The public face of the document, and the rules of LANGUAGE.md that a look at the file shows. */
public final class FaceTest {
    private static final String NO_SUCH = "NoSuchElementException";
    private static final String ARGUMENT = "IllegalArgumentException";
    private static final String STATE = "IllegalStateException";

    /** Each method with how many ints it takes, and what it says that it throws. */
    private static final Map<String, List<String>> FACE = Map.ofEntries(
            Map.entry("cache(4)", List.of(ARGUMENT)),
            Map.entry("drop(1)", List.of(NO_SUCH, STATE)),
            Map.entry("allocate(2)", List.of(NO_SUCH, ARGUMENT)),
            Map.entry("free(2)", List.of(NO_SUCH, ARGUMENT, STATE)),
            Map.entry("mark(2)", List.of(NO_SUCH)),
            Map.entry("flush(1)", List.of(ARGUMENT)),
            Map.entry("empty(1)", List.of(NO_SUCH)),
            Map.entry("reap(0)", List.of()),
            Map.entry("cacheOf(1)", List.of()),
            Map.entry("objectOf(1)", List.of()),
            Map.entry("about(2)", List.of(NO_SUCH, ARGUMENT)),
            Map.entry("list(3)", List.of(NO_SUCH, ARGUMENT)),
            Map.entry("slab(2)", List.of(NO_SUCH, ARGUMENT)),
            Map.entry("magazine(3)", List.of(NO_SUCH, ARGUMENT)),
            Map.entry("block(2)", List.of(ARGUMENT)),
            Map.entry("pages(1)", List.of()));

    private static final String[] NOT_IN_THE_FILE = {
        "catch", "finally", "synchronized", "assert ", "->", "::", "package ", "System.out", "Exact(", "instanceof"};

    public static void main(String[] args) throws IOException {
        Due due = new Due();
        methods(due);
        fields(due);
        source(due);
        due.end();
    }

    private static void methods(Due due) {
        Set<String> open = new TreeSet<>();
        Set<String> closed = new TreeSet<>();
        for (Method method : SlabHouse.class.getDeclaredMethods()) {
            if (Modifier.isPrivate(method.getModifiers())) {
                closed.add(method.getName());
                continue;
            }
            due.holds(method + " is public", Modifier.isPublic(method.getModifiers()));
            due.holds(method + " answers an int", method.getReturnType() == int.class);
            for (Class<?> type : method.getParameterTypes()) {
                due.holds(method + " takes ints", type == int.class);
            }
            String name = method.getName() + "(" + method.getParameterCount() + ")";
            List<String> thrown = new ArrayList<>();
            for (Class<?> type : method.getExceptionTypes()) {
                thrown.add(type.getSimpleName());
            }
            due.same("what " + name + " says that it throws", String.valueOf(FACE.get(name)), thrown.toString());
            open.add(name);
        }
        due.holds("the public methods are " + open, open.equals(FACE.keySet()));
        for (String name : closed) {
            due.holds("a private method bears the public name " + name,
                    open.stream().noneMatch(each -> each.startsWith(name + "(")));
        }
        due.holds("the class is public and final", Modifier.isPublic(SlabHouse.class.getModifiers())
                && Modifier.isFinal(SlabHouse.class.getModifiers()));
        due.is("constructors", 1, SlabHouse.class.getDeclaredConstructors().length);
        due.is("public constructors without parameters", 1, SlabHouse.class.getConstructors().length);
    }

    private static void fields(Due due) {
        due.is("NONE", -1, SlabHouse.NONE);
        for (Field field : SlabHouse.class.getDeclaredFields()) {
            boolean constant = field.getName().equals("NONE");
            due.holds(field + " is private", constant || Modifier.isPrivate(field.getModifiers()));
            due.holds(field + " is final if it is static", !Modifier.isStatic(field.getModifiers())
                    || Modifier.isFinal(field.getModifiers()));
        }
    }

    private static void source(Due due) throws IOException {
        String text = Files.readString(Path.of("src/main/java/SlabHouse.java"));
        for (String word : NOT_IN_THE_FILE) {
            due.holds("the file holds '" + word + "'", !text.contains(word));
        }
        for (String line : text.split("\n")) {
            if (line.startsWith("import")) {
                due.holds(line, line.equals("import java.util.Arrays;")
                        || line.equals("import java.util.NoSuchElementException;"));
            }
        }
    }
}

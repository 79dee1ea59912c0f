import java.io.IOException;
import java.lang.reflect.Field;
import java.lang.reflect.Method;
import java.lang.reflect.Modifier;
import java.nio.file.Files;
import java.nio.file.Path;
import java.util.Set;
import java.util.TreeSet;

/** The public face of the document, and the rules of LANGUAGE.md that a look at the file shows. */
public final class FaceTest {
    private static final Set<String> FACE = Set.of(
            "cache(4)", "drop(1)", "allocate(2)", "free(2)", "mark(2)", "flush(1)", "empty(1)", "reap(0)",
            "cacheOf(1)", "objectOf(1)", "about(2)", "list(3)", "slab(2)", "magazine(3)", "block(2)", "pages(1)");

    private static final String[] NOT_IN_THE_FILE = {
        "catch", "finally", "synchronized", "assert ", "->", "::", "package ", "System.out", "Exact(", "instanceof"};

    public static void main(String[] args) throws IOException {
        Due due = new Due();
        methods(due);
        fields(due);
        source(due);
        due.end();
    }

    private static void methods(Due due) {
        Set<String> open = new TreeSet<>();
        Set<String> closed = new TreeSet<>();
        for (Method method : SlabHouse.class.getDeclaredMethods()) {
            if (Modifier.isPrivate(method.getModifiers())) {
                closed.add(method.getName());
                continue;
            }
            due.holds(method + " is public", Modifier.isPublic(method.getModifiers()));
            due.holds(method + " answers an int", method.getReturnType() == int.class);
            for (Class<?> type : method.getParameterTypes()) {
                due.holds(method + " takes ints", type == int.class);
            }
            open.add(method.getName() + "(" + method.getParameterCount() + ")");
        }
        due.holds("the public methods are " + open, open.equals(FACE));
        for (String name : closed) {
            due.holds("a private method bears the public name " + name,
                    open.stream().noneMatch(each -> each.startsWith(name + "(")));
        }
        due.holds("the class is public and final", Modifier.isPublic(SlabHouse.class.getModifiers())
                && Modifier.isFinal(SlabHouse.class.getModifiers()));
        due.is("constructors", 1, SlabHouse.class.getDeclaredConstructors().length);
        due.is("public constructors without parameters", 1, SlabHouse.class.getConstructors().length);
    }

    private static void fields(Due due) {
        due.is("NONE", -1, SlabHouse.NONE);
        for (Field field : SlabHouse.class.getDeclaredFields()) {
            boolean constant = field.getName().equals("NONE");
            due.holds(field + " is private", constant || Modifier.isPrivate(field.getModifiers()));
            due.holds(field + " is final if it is static", !Modifier.isStatic(field.getModifiers())
                    || Modifier.isFinal(field.getModifiers()));
        }
    }

    private static void source(Due due) throws IOException {
        String text = Files.readString(Path.of("src/main/java/SlabHouse.java"));
        for (String word : NOT_IN_THE_FILE) {
            due.holds("the file holds '" + word + "'", !text.contains(word));
        }
        for (String line : text.split("\n")) {
            if (line.startsWith("import")) {
                due.holds(line, line.equals("import java.util.Arrays;")
                        || line.equals("import java.util.NoSuchElementException;"));
            }
        }
    }
}

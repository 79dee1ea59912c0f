import java.io.File;
import java.io.IOException;
import java.lang.reflect.Method;
import java.lang.reflect.Modifier;
import java.nio.file.Files;
import java.nio.file.Path;
import java.util.List;
import java.util.regex.Matcher;
import java.util.regex.Pattern;

/** That README.md says what is so: its example's answers, and its tables of calls and tests. */
public final class ReadmeTest {
    /** A line of the example: a call of the house and, behind it, the answer that it says. */
    private static final Pattern SAID = Pattern.compile("house\\.(\\w+)\\(([^)]*)\\); *// (-?\\d+):");

    private static final Due DUE = new Due();

    public static void main(String[] args) throws IOException {
        List<String> lines = Files.readAllLines(Path.of("README.md"));
        example(lines);
        calls(lines);
        tests(lines);
        DUE.end();
    }

    private static void example(List<String> lines) {
        SlabHouse house = new SlabHouse();
        int cache = house.cache(104, 16, 0, 7);
        int address = house.allocate(cache, 0);
        String made = "cache(104, 16, 0, 7) " + cache
                + ", allocate(cache, 0) " + address
                + ", mark(address, 9) " + house.mark(address, 9)
                + ", mark(address, 7) " + house.mark(address, 7)
                + ", free(address, 0) " + house.free(address, 0)
                + ", flush(0) " + house.flush(0)
                + ", reap() " + house.reap()
                + ", drop(cache) " + house.drop(cache);
        StringBuilder said = new StringBuilder();
        for (String line : lines) {
            Matcher found = SAID.matcher(line);
            if (found.find()) {
                said.append(said.length() == 0 ? "" : ", ")
                        .append(found.group(1)).append('(').append(found.group(2)).append(") ")
                        .append(found.group(3));
            }
        }
        DUE.same("the example of README.md", made, said.toString());
    }

    private static void calls(List<String> lines) {
        for (Method method : SlabHouse.class.getDeclaredMethods()) {
            if (Modifier.isPublic(method.getModifiers())) {
                String row = rowOf(lines, method.getName() + "(");
                DUE.holds("README.md has no row for the call " + method.getName(), !row.isEmpty());
                for (Class<?> thrown : method.getExceptionTypes()) {
                    String name = thrown.getSimpleName().replace("Exception", "");
                    DUE.holds("README.md's row for " + method.getName() + " lacks " + name, row.contains(name));
                }
            }
        }
    }

    private static void tests(List<String> lines) {
        String[] files = new File("src/test/java").list();
        DUE.holds("there are tests", files != null && files.length > 0);
        for (String file : files == null ? new String[0] : files) {
            if (file.endsWith("Test.java")) {
                String name = file.replace(".java", "");
                DUE.holds("README.md has no row for the test " + name, !rowOf(lines, name + "`").isEmpty());
            }
        }
    }

    /** The row of a table that begins with a name; an empty text without one. */
    private static String rowOf(List<String> lines, String name) {
        for (String line : lines) {
            if (line.startsWith("| `" + name)) {
                return line;
            }
        }
        return "";
    }
}

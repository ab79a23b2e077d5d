import java.io.IOException;
import java.lang.reflect.Method;
import java.nio.file.Files;
import java.nio.file.Path;
import java.util.ArrayList;
import java.util.List;
import java.util.Set;
import java.util.TreeSet;
import java.util.regex.Matcher;
import java.util.regex.Pattern;
import java.util.stream.Stream;

/** README.md: the calls that it shows give the answers that it shows, and it leaves out no method and no test. */
public final class ReadmeTest {
    private static final Pattern MADE = Pattern.compile("BackHouse house = new BackHouse\\(\\);");
    private static final Pattern CALL = Pattern.compile("house\\.(\\w+)\\((.*)\\); +// (-?\\d+)(: .+)?");
    private static final Pattern PROMISED = Pattern.compile("^`(?:int|long) (\\w+)\\((.*?)\\)`: ", Pattern.MULTILINE);

    public static void main(String[] args) throws IOException, ReflectiveOperationException {
        String page = Files.readString(Path.of("README.md"));
        Set<String> shown = new TreeSet<>();
        run(linesOfCode(page), shown);
        everyMethod(page, shown);
        everyTest(page);
        constants(page);
        Due.close();
    }

    /** The lines between the fences of its Java; whatever stands there is run. */
    private static List<String> linesOfCode(String page) {
        List<String> code = new ArrayList<>();
        boolean within = false;
        for (String line : page.split("\n")) {
            if (line.startsWith("```")) {
                within = line.equals("```java");
            } else if (within && !line.isBlank()) {
                code.add(line);
            }
        }
        return code;
    }

    private static void run(List<String> code, Set<String> shown) throws ReflectiveOperationException {
        BackHouse house = null;
        int calls = 0;
        for (String line : code) {
            Matcher call = CALL.matcher(line);
            if (MADE.matcher(line).matches()) {
                house = new BackHouse();
                calls = 0;
            } else if (call.matches() && house != null) {
                calls++;
                shown.add(call.group(1));
                long got = answer(house, call.group(1), call.group(2));
                Due.due("README.md: " + line, got, Long.parseLong(call.group(3)));
            } else {
                Due.due("README.md: a line that no test can run: " + line, 1, 0);
            }
            Due.due("README.md: calls of one object, " + calls, calls <= 512 ? 1 : 0, 1);
        }
    }

    private static long answer(BackHouse house, String name, String numbers) throws ReflectiveOperationException {
        String[] parts = numbers.isEmpty() ? new String[0] : numbers.split(", ");
        for (Method method : BackHouse.class.getMethods()) {
            if (method.getName().equals(name) && method.getParameterCount() == parts.length) {
                Object[] values = new Object[parts.length];
                for (int i = 0; i < parts.length; i++) {
                    values[i] = value(parts[i], method.getParameterTypes()[i]);
                }
                return ((Number) method.invoke(house, values)).longValue();
            }
        }
        Due.due("README.md: a method that is not there: " + name + "(" + numbers + ")", 1, 0);
        return 0;
    }

    /** A number, or a sign between quotes, as Java would hand it over. */
    private static Object value(String part, Class<?> type) {
        long v = part.length() == 3 && part.charAt(0) == '\'' ? part.charAt(1) : Long.parseLong(part);
        return type == long.class ? (Object) v : (Object) Math.toIntExact(v);
    }

    /** Each promise's call has a row of its own on the page, by the document's names, and is shown in a run. */
    private static void everyMethod(String page, Set<String> shown) throws IOException {
        Matcher promised = PROMISED.matcher(Files.readString(Path.of("../shared/DOC.md")));
        int many = 0;
        while (promised.find()) {
            many++;
            String call = promised.group(1) + "(" + promised.group(2).replaceAll("(int|long) ", "") + ")";
            Due.due("README.md: a row for " + call, count(page, "\n| `" + call + "` | "), 1);
            Due.due("README.md: a run that shows " + call, shown.contains(promised.group(1)) ? 1 : 0, 1);
        }
        Due.due("promised methods", many, 37);
    }

    private static int count(String page, String words) {
        return page.split(Pattern.quote(words), -1).length - 1;
    }

    private static void everyTest(String page) throws IOException {
        try (Stream<Path> files = Files.list(Path.of("src/test/java"))) {
            for (Path file : files.toList()) {
                String name = file.getFileName().toString().replace(".java", "");
                if (name.endsWith("Test")) {
                    boolean named = Pattern.compile("^\\|.*\\b" + name + "\\b.*\\|$", Pattern.MULTILINE).matcher(page).find();
                    Due.due("README.md: a row for " + name, named ? 1 : 0, 1);
                }
            }
        }
    }

    private static void constants(String page) {
        int[] values = {BackHouse.BAD, BackHouse.NOT, BackHouse.FULL, BackHouse.STATE};
        String[] names = {"BAD", "NOT", "FULL", "STATE"};
        for (int i = 0; i < names.length; i++) {
            Due.due("README.md: " + names[i], count(page, "| `" + names[i] + "`, " + values[i] + " |"), 1);
        }
        Due.due("README.md: VOID", count(page, "`VOID` is " + BackHouse.VOID + ";"), 1);
    }
}

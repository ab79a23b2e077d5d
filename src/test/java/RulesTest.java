import java.io.IOException;
import java.lang.reflect.Constructor;
import java.lang.reflect.Field;
import java.lang.reflect.Method;
import java.lang.reflect.Modifier;
import java.nio.file.Files;
import java.nio.file.Path;
import java.util.ArrayList;
import java.util.List;
import java.util.Set;
import java.util.TreeSet;
import java.util.regex.Matcher;
import java.util.regex.Pattern;

/** The document's face, and those rules of LANGUAGE.md that the source and its classes show. */
public final class RulesTest {
    private static final String[] FACE = {"int thing int int", "int things int int int", "int mend int int int",
        "int of int int", "int feed int", "int law", "int drive int int", "int going int int int", "long mean int",
        "long likely int int", "int aloud int int", "int who int", "long doorstep int", "long list int int",
        "int onWith int", "int judge int int", "int which int int", "int first int", "int chain int",
        "int drawn int int int", "int lock int", "int on", "int led int", "int image", "int back", "int undo", "int redo",
        "int body int", "int act int int int", "int trace int", "int keep int int", "int row int int int",
        "int put int int long", "long element int int", "int shift int int int int int", "int taken int int", "int count int"};

    public static void main(String[] args) throws IOException {
        face();
        constants();
        for (Class<?> inside : allClasses()) {
            membersOf(inside);
        }
        String source = Files.readString(Path.of("src/main/java/BackHouse.java"));
        signs(source);
        words(withoutComments(source));
        lengths(withoutComments(source));
        Due.close();
    }

    private static List<Class<?>> allClasses() {
        List<Class<?>> all = new ArrayList<>(List.of(BackHouse.class.getDeclaredClasses()));
        all.add(BackHouse.class);
        Due.due("at most twelve classes: " + all.size(), all.size() <= 12 ? 1 : 0, 1);
        return all;
    }

    private static void face() {
        Set<String> want = new TreeSet<>(List.of(FACE));
        Set<String> got = new TreeSet<>();
        for (Method method : BackHouse.class.getDeclaredMethods()) {
            if (!Modifier.isPrivate(method.getModifiers())) {
                StringBuilder line = new StringBuilder(method.getReturnType() + " " + method.getName());
                for (Class<?> type : method.getParameterTypes()) {
                    line.append(" ").append(type);
                }
                got.add(line.toString());
                Due.due("public: " + line, method.getModifiers(), Modifier.PUBLIC);
            }
        }
        Due.due("the face: " + got, want.equals(got) ? 1 : 0, 1);
        Constructor<?>[] constructors = BackHouse.class.getDeclaredConstructors();
        Due.due("one constructor", constructors.length, 1);
        Due.due("public", constructors[0].getModifiers(), Modifier.PUBLIC);
        Due.due("without arguments", constructors[0].getParameterCount(), 0);
        Due.due("public and final", BackHouse.class.getModifiers(), Modifier.PUBLIC | Modifier.FINAL);
    }

    private static void constants() {
        Due.due("BAD", BackHouse.BAD, -1);
        Due.due("NOT", BackHouse.NOT, -2);
        Due.due("FULL", BackHouse.FULL, -3);
        Due.due("STATE", BackHouse.STATE, -5);
        Due.due("VOID", BackHouse.VOID, -2000000000);
        Set<String> open = new TreeSet<>();
        for (Field field : BackHouse.class.getDeclaredFields()) {
            if (!Modifier.isPrivate(field.getModifiers())) {
                open.add(field.getName());
            }
        }
        Due.due("open fields: " + open, open.equals(Set.of("BAD", "NOT", "FULL", "STATE", "VOID")) ? 1 : 0, 1);
    }

    private static void membersOf(Class<?> inside) {
        if (inside != BackHouse.class) {
            Due.due("static: " + inside, Modifier.isStatic(inside.getModifiers()) ? 1 : 0, 1);
            Due.due("no open class: " + inside, inside.getModifiers() & (Modifier.PUBLIC | Modifier.PROTECTED), 0);
        }
        int fields = 0;
        for (Field field : inside.getDeclaredFields()) {
            boolean isStatic = Modifier.isStatic(field.getModifiers());
            fields += isStatic ? 0 : 1;
            Due.due("static and not final: " + field, isStatic && !Modifier.isFinal(field.getModifiers()) ? 1 : 0, 0);
        }
        Due.due("at most twenty fields: " + inside, fields <= 20 ? 1 : 0, 1);
        for (Method method : inside.getDeclaredMethods()) {
            Due.due("at most seven parameters: " + method, method.getParameterCount() <= 7 ? 1 : 0, 1);
            boolean named = false;
            for (String line : FACE) {
                named |= line.split(" ")[1].equals(method.getName());
            }
            Due.due("a name of the face: " + method, named && !Modifier.isPublic(method.getModifiers()) ? 1 : 0, 0);
            Due.due("a name of its own: " + method, Set.of("equals", "hashCode", "toString").contains(method.getName()) ? 1 : 0, 0);
        }
    }

    private static void signs(String source) {
        for (char sign : source.toCharArray()) {
            Due.due("sign " + (int) sign, sign == '\n' || sign >= 32 && sign < 127 ? 1 : 0, 1);
        }
    }

    private static String withoutComments(String source) {
        return source.replaceAll("//[^\n]*", "").replaceAll("(?s)/\\*.*?\\*/", "");
    }

    private static void words(String source) {
        String[] none = {"throw", "throws", "try", "catch", "finally", "synchronized", "assert", "package", "Object",
            "Exception", "Thread", "Random", "volatile", "native", "transient"};
        for (String word : none) {
            Due.due("the word " + word, Pattern.compile("\\b" + word + "\\b").matcher(source).find() ? 1 : 0, 0);
        }
        String[] noSigns = {"::", "@", "Exact", "System.out", "System.err", "nanoTime", "currentTimeMillis", "identityHashCode"};
        for (String sign : noSigns) {
            Due.due("the sign " + sign, source.indexOf(sign), -1);
        }
        Matcher imported = Pattern.compile("\\bimport ([^;]*);").matcher(source);
        while (imported.find()) {
            boolean listed = imported.group(1).matches("java\\.util\\.(ArrayList|List|Arrays|Iterator)");
            Due.due("import " + imported.group(1), listed ? 1 : 0, 1);
        }
        Matcher used = Pattern.compile("\\b(System|Arrays|List)\\.\\w+").matcher(source);
        Set<String> library = Set.of("System.arraycopy", "Arrays.copyOf", "Arrays.copyOfRange", "Arrays.fill", "List.of");
        while (used.find()) {
            Due.due("of the library: " + used.group(), library.contains(used.group()) ? 1 : 0, 1);
        }
    }

    /** Methods by their braces: of some sixty lines at the most. */
    private static void lengths(String source) {
        String[] lines = source.split("\n");
        for (int indent = 4; indent <= 8; indent += 4) {
            String open = " ".repeat(indent) + "\\S.*\\) \\{";
            int from = -1;
            for (int i = 0; i < lines.length; i++) {
                if (lines[i].matches(open)) {
                    from = i;
                } else if (from >= 0 && lines[i].equals(" ".repeat(indent) + "}")) {
                    Due.due("lines of " + lines[from].trim(), i - from < 60 ? 1 : 0, 1);
                    from = -1;
                }
            }
        }
    }
}

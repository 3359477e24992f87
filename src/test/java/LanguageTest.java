import java.io.IOException;
import java.lang.reflect.Field;
import java.lang.reflect.Method;
import java.lang.reflect.Modifier;
import java.nio.charset.StandardCharsets;
import java.nio.file.Files;
import java.nio.file.Path;
import java.util.ArrayList;
import java.util.Arrays;
import java.util.List;
import java.util.Set;
import java.util.TreeSet;
import java.util.regex.Matcher;
import java.util.regex.Pattern;

/** The document's face, and the rules of LANGUAGE.md that can be read from the class or its source. */
public final class LanguageTest {
    private static final String FACE = """
        int write(int)
        int wipe()
        int fault()
        int land()
        int about(int)
        int well(int, int)
        int song(int, int)
        int year()
        int sing(int, int, int, int)
        int lid(int)
        int undo()
        int heard(int, int, boolean)
        int songLasts(int)
        int lawLasts(int)
        int lost(int)
        int plan(int, int)
        int bestLid(int)
        int lamps()
        int mostPitch(int)
        int truest(int)
        int back(int, int, int)
        int lords(int, int)
        int rain(int, int, boolean)
        long seed(long)
        int rains(int, int)
        int keep(int)
        int again(int)
        """;

    public static void main(String[] args) throws IOException {
        face();
        members();
        source(Files.readString(Path.of("src/main/java/WellEchoes.java"), StandardCharsets.UTF_8));
        Check.end("LanguageTest");
    }

    /** Rule 1. */
    private static void face() {
        Set<String> due = new TreeSet<>(Arrays.asList(FACE.strip().split("\\s*\n\\s*")));
        Set<String> found = new TreeSet<>();
        for (Method method : WellEchoes.class.getDeclaredMethods()) {
            if (!Modifier.isPrivate(method.getModifiers())) {
                Check.that(method + " is public", Modifier.isPublic(method.getModifiers()));
                List<String> types = new ArrayList<>();
                for (Class<?> type : method.getParameterTypes()) {
                    types.add(type.getName());
                }
                found.add(method.getReturnType() + " " + method.getName() + "(" + String.join(", ", types) + ")");
            }
        }
        Check.that("the face: " + found, due.equals(found));
        Set<String> constants = new TreeSet<>();
        for (Field field : WellEchoes.class.getDeclaredFields()) {
            if (!Modifier.isPrivate(field.getModifiers())) {
                constants.add(Modifier.toString(field.getModifiers()) + " " + field.getName());
            }
        }
        Set<String> dueConstants = new TreeSet<>();
        for (String name : new String[] {"UNKNOWN", "BAD", "LATE", "FULL", "NONE"}) {
            dueConstants.add("public static final " + name);
        }
        Check.that("the constants: " + constants, dueConstants.equals(constants));
        Check.due("constructors", WellEchoes.class.getDeclaredConstructors().length, 1);
        Check.that("final", Modifier.isFinal(WellEchoes.class.getModifiers()));
    }

    /** Rules 1, 2, 5 and 11. */
    private static void members() {
        List<Class<?>> classes = new ArrayList<>(List.of(WellEchoes.class.getDeclaredClasses()));
        for (Class<?> inner : classes) {
            Check.that(inner + " is static", Modifier.isStatic(inner.getModifiers()));
            Check.that(inner + " is hidden", !Modifier.isPublic(inner.getModifiers()));
        }
        classes.add(WellEchoes.class);
        Check.that("at most twelve classes", classes.size() <= 12);
        for (Class<?> type : classes) {
            int fields = 0;
            for (Field field : type.getDeclaredFields()) {
                boolean isStatic = Modifier.isStatic(field.getModifiers());
                Check.that(field + " is final", !isStatic || Modifier.isFinal(field.getModifiers()));
                fields += isStatic ? 0 : 1;
            }
            Check.that(type + " has at most twenty fields", fields <= 20);
            for (Method method : type.getDeclaredMethods()) {
                Check.that(method + " takes at most seven", method.getParameterCount() <= 7);
                boolean isFace = Modifier.isPublic(method.getModifiers());
                Check.that(method + " has a name of its own", isFace || !FACE.contains(" " + method.getName() + "("));
            }
        }
    }

    /** Rules 3 to 6, 10 and 12. */
    private static void source(String source) {
        String code = source.replaceAll("(?s)/\\*.*?\\*/", "").replaceAll("//[^\n]*", "");
        String[] words = {"throw", "throws", "try", "catch", "finally", "synchronized", "assert", "import",
            "package", "volatile", "transient", "native", "strictfp", "var", "float", "double"};
        for (String word : words) {
            Check.that("no " + word, !Pattern.compile("\\b" + word + "\\b").matcher(code).find());
        }
        Check.that("no lambda", !code.contains("->"));
        Check.that("no method reference", !code.contains("::"));
        Check.that("no texts", code.indexOf('"') < 0);
        Matcher library = Pattern.compile("\\b(Integer|Long|Math|System|Arrays)\\.(\\w+)").matcher(code);
        while (library.find()) {
            Check.that(library.group(), Set.of("Integer.bitCount", "Math.min", "Math.max", "Math.abs")
                    .contains(library.group()));
        }
        // Calls make nothing: what is made is made in constructors and where fields begin.
        for (String line : code.split("\n")) {
            Check.that("made ahead of all calls: " + line.strip(), !line.contains(" new ")
                    || line.matches("\\s*(private final int\\[\\] )?[a-zA-Z]+(\\[act\\])? = new [^;]*;"));
        }
        methodLengths(code);
    }

    /** Rule 11. */
    private static void methodLengths(String code) {
        int begin = 0;
        String[] lines = code.split("\n");
        for (int line = 0; line < lines.length; line++) {
            if (lines[line].matches("\\s{4,8}[a-z][\\w \\[\\]]*\\(.*")) {
                begin = line;
            }
            if (lines[line].matches("\\s{4,8}}")) {
                Check.that("some sixty lines at most: " + lines[begin].strip(), line - begin < 60
                        || lines[begin].isBlank());
            }
        }
    }
}

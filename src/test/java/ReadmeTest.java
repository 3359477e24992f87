import java.io.ByteArrayOutputStream;
import java.io.IOException;
import java.io.PrintStream;
import java.net.URL;
import java.net.URLClassLoader;
import java.nio.charset.StandardCharsets;
import java.nio.file.Files;
import java.nio.file.Path;
import java.util.ArrayList;
import java.util.List;
import java.util.regex.Matcher;
import java.util.regex.Pattern;
import javax.tools.ToolProvider;

/** README.md: its programs are compiled and answer what stands beside them; all calls and refusals are told. */
public final class ReadmeTest {
    private static final Path PLACE = Path.of("build/readme");
    private static final Pattern BLOCK = Pattern.compile("(?ms)^```(\\w+)\n(.*?)^```$");
    private static final Pattern ANSWERED = Pattern.compile("(echoes\\..*);\\s+// (-?\\d+)(:.*|,.*)?");

    public static void main(String[] args) throws Exception {
        String readme = Files.readString(Path.of("README.md"), StandardCharsets.UTF_8);
        firstProgram(readme);
        answers(readme);
        allIsTold(readme);
        Check.end("ReadmeTest");
    }

    private static List<String> blocks(String readme, String kind) {
        List<String> found = new ArrayList<>();
        Matcher block = BLOCK.matcher(readme);
        while (block.find()) {
            if (block.group(1).equals(kind)) {
                found.add(block.group(2));
            }
        }
        return found;
    }

    /** Compiled by itself with the class, as the page says. */
    private static Class<?> compiled(String name, String source) throws IOException, ClassNotFoundException {
        Files.createDirectories(PLACE);
        Path file = PLACE.resolve(name + ".java");
        Files.writeString(file, source, StandardCharsets.UTF_8);
        int exit = ToolProvider.getSystemJavaCompiler().run(null, null, null, "-d", PLACE.toString(),
                "src/main/java/WellEchoes.java", file.toString());
        Check.due("compiling " + name, exit, 0);
        URL[] places = {PLACE.toUri().toURL()};
        return Class.forName(name, true, new URLClassLoader(places, ReadmeTest.class.getClassLoader()));
    }

    private static void firstProgram(String readme) throws Exception {
        String program = blocks(readme, "java").get(0);
        ByteArrayOutputStream printed = new ByteArrayOutputStream();
        PrintStream before = System.out;
        Class<?> first = compiled("First", program);
        System.setOut(new PrintStream(printed, true, StandardCharsets.UTF_8));
        try {
            first.getMethod("main", String[].class).invoke(null, (Object) new String[0]);
        } finally {
            System.setOut(before);
        }
        String due = blocks(readme, "text").get(0);
        String got = printed.toString(StandardCharsets.UTF_8).replace(System.lineSeparator(), "\n");
        Check.that("First prints " + got + "as the page says: " + due, got.equals(due));
    }

    /** The other programs go on from each other; each line with a number behind it answers that number. */
    private static void answers(String readme) throws Exception {
        List<String> programs = blocks(readme, "java");
        StringBuilder source = new StringBuilder("public final class Answers {\n"
                + "public static java.util.List<Long> given() {\n"
                + "java.util.List<Long> given = new java.util.ArrayList<>();\n");
        List<String> calls = new ArrayList<>();
        List<Long> due = new ArrayList<>();
        for (String line : String.join("", programs.subList(1, programs.size())).split("\n")) {
            Matcher answered = ANSWERED.matcher(line.strip());
            if (answered.matches()) {
                calls.add(answered.group(1));
                due.add(Long.parseLong(answered.group(2)));
                source.append("given.add((long) ").append(answered.group(1)).append(");\n");
            } else {
                Check.that("an answer stands behind it: " + line, !line.contains("//"));
                source.append(line).append('\n');
            }
        }
        source.append("return given;\n}\n}\n");
        List<?> given = (List<?>) compiled("Answers", source.toString()).getMethod("given").invoke(null);
        Check.that("there are answers", calls.size() > 20);
        for (int call = 0; call < calls.size(); call++) {
            Check.due("README: " + calls.get(call), (Long) given.get(call), due.get(call));
        }
    }

    private static void allIsTold(String readme) {
        for (String name : FaceTest.names()) {
            Check.that("README tells of " + name, readme.contains("| `" + name + "(") || readme.contains(", `" + name + "("));
        }
        String[] refusals = {"| -1 | `UNKNOWN` |", "| -2 | `BAD` |", "| -3 | `LATE` |", "| -4 | `FULL` |", "`NONE` (-9)"};
        for (String refusal : refusals) {
            Check.that("README tells of " + refusal, readme.contains(refusal));
        }
        Check.that("README tells the one command", blocks(readme, "sh").contains(".ci/run\n"));
    }
}

import java.lang.reflect.Constructor;
import java.lang.reflect.Field;
import java.lang.reflect.Method;
import java.lang.reflect.Modifier;
import java.util.Arrays;
import java.util.Set;
import java.util.TreeSet;

/** The document's public face: each constant, constructor and call as it is told, and nothing else. */
public final class FaceTest {
    private static final String CALLS = """
        public int write(int)
        public int wipe()
        public int fault()
        public int land()
        public int about(int)
        public int well(int, int)
        public int song(int, int)
        public int year()
        public int sing(int, int, int, int)
        public int lid(int)
        public int undo()
        public int heard(int, int, boolean)
        public int songLasts(int)
        public int lawLasts(int)
        public int lost(int)
        public int plan(int, int)
        public int bestLid(int)
        public int lamps()
        public int mostPitch(int)
        public int truest(int)
        public int back(int, int, int)
        public int lords(int, int)
        public int rain(int, int, boolean)
        public long seed(long)
        public int rains(int, int)
        public int keep(int)
        public int again(int)
        """;
    private static final String CONSTANTS = """
        public static final int UNKNOWN
        public static final int BAD
        public static final int LATE
        public static final int FULL
        public static final int NONE
        """;

    public static void main(String[] args) {
        Edge.run(FaceTest.class, "face");
    }

    static Set<String> lines(String told) {
        return new TreeSet<>(Arrays.asList(told.strip().split("\\s*\n\\s*")));
    }

    static Set<String> names() {
        Set<String> names = new TreeSet<>();
        for (String line : lines(CALLS)) {
            names.add(line.substring(line.lastIndexOf(' ', line.indexOf('(')) + 1, line.indexOf('(')));
        }
        return names;
    }

    /** Told as the document tells it: modifiers, what is answered, name, arguments; no static, no throws. */
    private static String told(Method method) {
        StringBuilder arguments = new StringBuilder();
        for (Class<?> type : method.getParameterTypes()) {
            arguments.append(arguments.length() == 0 ? "" : ", ").append(type.getName());
        }
        return Modifier.toString(method.getModifiers()) + " " + method.getReturnType() + " " + method.getName()
                + "(" + arguments + ")" + (method.getExceptionTypes().length == 0 ? "" : " throws");
    }

    static void faceCalls() {
        Set<String> found = new TreeSet<>();
        for (Method method : WellEchoes.class.getDeclaredMethods()) {
            if (!Modifier.isPrivate(method.getModifiers())) {
                found.add(told(method));
            }
        }
        Check.that("the calls: " + found, lines(CALLS).equals(found));
        Check.due("calls", names().size(), 27);
    }

    static void faceConstants() {
        Set<String> found = new TreeSet<>();
        for (Field field : WellEchoes.class.getDeclaredFields()) {
            if (!Modifier.isPrivate(field.getModifiers())) {
                found.add(Modifier.toString(field.getModifiers()) + " " + field.getType() + " " + field.getName());
            }
        }
        Check.that("the constants: " + found, lines(CONSTANTS).equals(found));
        Check.due("UNKNOWN", WellEchoes.UNKNOWN, -1);
        Check.due("BAD", WellEchoes.BAD, -2);
        Check.due("LATE", WellEchoes.LATE, -3);
        Check.due("FULL", WellEchoes.FULL, -4);
        Check.due("NONE", WellEchoes.NONE, -9);
    }

    static void faceConstructor() {
        Constructor<?>[] all = WellEchoes.class.getDeclaredConstructors();
        Check.due("constructors", all.length, 1);
        Check.that("WellEchoes() is public", Modifier.toString(all[0].getModifiers()).equals("public"));
        Check.due("its arguments", all[0].getParameterCount(), 0);
        Check.due("what it says that it throws", all[0].getExceptionTypes().length, 0);
    }

    static void faceClass() {
        Class<?> type = WellEchoes.class;
        Check.that("public final class", Modifier.toString(type.getModifiers()).equals("public final"));
        Check.that("without a package", type.getPackageName().isEmpty());
        Check.that("of no other class", type.getSuperclass() == Object.class);
        Check.due("interfaces", type.getInterfaces().length, 0);
        for (Class<?> inner : type.getDeclaredClasses()) {
            boolean isSeen = Modifier.isPublic(inner.getModifiers()) || Modifier.isProtected(inner.getModifiers());
            Check.that(inner + " is private or package-visible, and static",
                    !isSeen && Modifier.isStatic(inner.getModifiers()));
        }
    }
}

import java.lang.reflect.InvocationTargetException;
import java.lang.reflect.Method;
import java.util.ArrayList;
import java.util.Arrays;
import java.util.Comparator;
import java.util.EnumMap;
import java.util.List;
import java.util.Map;
import java.util.function.Supplier;
import java.util.function.ToLongFunction;

/** What the tests of the document's ends and limits share: states, and what a call changes in them. */
final class Edge {
    /** From nothing to all rows full; WELLS, SONGS and THE TEXT as they are in it. */
    enum State {
        NEW(0, 0, ""),
        /** THE TEXT was never landed. */
        FAULTY(0, 0, "LW10S"),
        EMPTY(0, 0, "L"),
        /** A LID on WELL 2, three ACTS, one SLOT, THE TEXT with a FAULT behind THE LAND. */
        ORDINARY(3, 4, "LW32W51W10S0093S1180S5210S0182x"),
        /** A LID on every WELL, no SLOT. */
        LIDDED(2, 3, "LW90W91S0090S1191S2050"),
        /** 4 WELLS, 8 SONGS, 12 ACTS of 13, both SLOTS, 56 bytes; WELL 3 has a LID. */
        FULL(4, 8, "LW10W91W52W90S0090S1191S2292S3393S4080S5181SSSSSSSSSSSSS");

        final int wells;
        final int songs;
        final String text;

        State(int wells, int songs, String text) {
            this.wells = wells;
            this.songs = songs;
            this.text = text;
        }

        WellEchoes make() {
            switch (this) {
                case FAULTY: return faulty();
                case EMPTY: return empty();
                case ORDINARY: return ordinary();
                case LIDDED: return lidded();
                case FULL: return full();
                default: return new WellEchoes();
            }
        }
    }

    private static final Map<State, List<String>> ANSWERS = new EnumMap<>(State.class);

    private Edge() {
    }

    private static WellEchoes faulty() {
        WellEchoes echoes = Check.written("LW10S");
        echoes.seed(3);
        return echoes;
    }

    private static WellEchoes empty() {
        WellEchoes echoes = Check.land("L");
        echoes.year();
        echoes.keep(1);
        return echoes;
    }

    private static WellEchoes ordinary() {
        WellEchoes echoes = Check.land("LW32W51W10S0093S1180S5210S0182");
        echoes.seed(77);
        echoes.sing(0, 1, 7, 1);
        echoes.keep(0);
        echoes.year();
        echoes.lid(2);
        echoes.write('x');
        return echoes;
    }

    private static WellEchoes lidded() {
        WellEchoes echoes = Check.land("LW90W91S0090S1191S2050");
        echoes.lid(0);
        echoes.lid(1);
        echoes.year();
        return echoes;
    }

    private static WellEchoes full() {
        WellEchoes echoes = Check.land("LW10W91W52W90S0090S1191S2292S3393S4080S5181");
        echoes.keep(0);
        echoes.seed(-1);
        echoes.sing(0, 1, 9, 2);
        echoes.sing(5, 1, 9, 0);
        echoes.year();
        for (int well : new int[] {3, 2, 2, 1, 1, 0, 0, 3, 3}) {
            echoes.lid(well);
        }
        echoes.year();
        echoes.keep(1);
        for (int letter = 43; letter < 56; letter++) {
            echoes.write('S');
        }
        return echoes;
    }

    /** Runs the tests of one promise: the methods that are named after it. */
    static void run(Class<?> tests) {
        run(tests, "promise");
    }

    /** Runs the methods whose names begin so, by their names' order. */
    static void run(Class<?> tests, String begin) {
        List<Method> methods = new ArrayList<>();
        for (Method method : tests.getDeclaredMethods()) {
            if (method.getName().startsWith(begin)) {
                methods.add(method);
            }
        }
        methods.sort(Comparator.comparing(Method::getName));
        Check.that("there are tests", !methods.isEmpty());
        for (Method method : methods) {
            Check.begin(method.getName());
            try {
                method.invoke(null);
            } catch (InvocationTargetException | IllegalAccessException thrown) {
                throw new IllegalStateException(method.getName() + " threw", thrown);
            }
        }
        Check.end(tests.getSimpleName());
    }

    /**
     * Numbers that are not in least .. most, the two next to it first; the others would be in it if
     * their upper bits were dropped, or are the last ones that there are.
     */
    static int[] outside(int least, int most) {
        int[] all = {least - 1, most + 1, least + 32, least + 64, least + 256, most - 256, least + 65536,
            Integer.MIN_VALUE, Integer.MIN_VALUE + Math.max(least, 0), Integer.MAX_VALUE};
        return Arrays.stream(all).filter(number -> number < least || number > most).distinct().toArray();
    }

    /** The call is refused, so; then every other call answers as on an object that was not asked. */
    static void refused(State state, String call, ToLongFunction<WellEchoes> ask, long due) {
        Check.that(call + ": " + due + " is a refusal", due <= -1 && due >= -4);
        changesNothing(state, call, ask, due);
    }

    static void changesNothing(State state, String call, ToLongFunction<WellEchoes> ask, long due) {
        Supplier<WellEchoes> asked = () -> {
            WellEchoes echoes = state.make();
            Check.due(state + ": " + call, ask.applyAsLong(echoes), due);
            return echoes;
        };
        same(state + " behind " + call, asked, answersOf(state));
    }

    /** The call changes nothing, whatever it answers; it answers the same when it is asked again. */
    static void onlyAsks(State state, String call, ToLongFunction<WellEchoes> ask) {
        changesNothing(state, call, ask, ask.applyAsLong(state.make()));
    }

    static List<String> answersOf(State state) {
        return ANSWERS.computeIfAbsent(state, made -> Every.answersOf(made::make));
    }

    static void same(String what, Supplier<WellEchoes> maker, List<String> due) {
        List<String> got = Every.answersOf(maker);
        Check.due(what + ": answers", got.size(), due.size());
        for (int answer = 0; answer < Math.min(got.size(), due.size()); answer++) {
            if (!got.get(answer).equals(due.get(answer))) {
                Check.that(what + ": " + got.get(answer) + ", due is " + due.get(answer), false);
                return;
            }
        }
    }

    /** All of a SONG, by song(song, what). */
    static void song(WellEchoes echoes, int song, int... due) {
        Check.due("parts of a SONG", due.length, 6);
        for (int what = 0; what < due.length; what++) {
            Check.due("song(" + song + ", " + what + ")", echoes.song(song, what), due[what]);
        }
    }

    /** How many SONGS there are, and how loud each is. */
    static void loud(WellEchoes echoes, int... due) {
        Check.due("SONGS", echoes.about(1), due.length);
        for (int song = 0; song < due.length; song++) {
            Check.due("how loud " + song, echoes.song(song, 2), due[song]);
        }
        Check.due("no SONG behind them", echoes.song(due.length, 2), WellEchoes.UNKNOWN);
    }

    /** about(0), about(1) and so on. */
    static void about(WellEchoes echoes, int... due) {
        for (int what = 0; what < due.length; what++) {
            Check.due("about(" + what + ")", echoes.about(what), due[what]);
        }
    }

    /** YEARS by which SONGS that are alone in smooth WELLS under LIDS grow older and stay as loud. */
    static void growOlder(WellEchoes echoes, int years) {
        int wells = echoes.about(0);
        for (int well = 0; well < wells; well++) {
            echoes.lid(well);
        }
        for (int year = 0; year < years; year++) {
            echoes.year();
        }
        for (int well = 0; well < wells; well++) {
            echoes.lid(well);
        }
    }
}

import java.util.function.LongSupplier;

/** What the tests share: lands from texts, answers against those that are due, the exit code. */
final class Check {
    private static int asked = 0;
    private static int wrong = 0;
    private static String test = "";

    private Check() {
    }

    /** What is asked from now on is told under this name. */
    static void begin(String name) {
        test = name + ": ";
    }

    static WellEchoes written(String text) {
        WellEchoes echoes = new WellEchoes();
        rewrite(echoes, text);
        return echoes;
    }

    static void rewrite(WellEchoes echoes, String text) {
        echoes.wipe();
        for (int place = 0; place < text.length(); place++) {
            due("write of " + text, echoes.write(text.charAt(place)), place + 1);
        }
    }

    /** A new object whose LAND is the text, which has no FAULT. */
    static WellEchoes land(String text) {
        WellEchoes echoes = written(text);
        due("fault of " + text, echoes.fault(), WellEchoes.NONE);
        int wells = text.length() - text.replace("W", "").length();
        int songs = text.length() - text.replace("S", "").length();
        due("land of " + text, echoes.land(), 10 * wells + songs);
        return echoes;
    }

    static void due(String call, long got, long want) {
        asked++;
        if (got != want) {
            wrong++;
            System.out.println(test + call + " answered " + got + ", due is " + want);
        }
    }

    static void due(String call, LongSupplier got, long want) {
        due(call, got.getAsLong(), want);
    }

    static void that(String what, boolean holds) {
        due(what, holds ? 1 : 0, 1);
    }

    /** All that can be asked without a change: two objects alike answer it alike. */
    static String state(WellEchoes echoes) {
        StringBuilder told = new StringBuilder();
        for (int what = 0; what <= 8; what++) {
            told.append(echoes.about(what)).append(' ');
        }
        told.append("wells");
        for (int well = 0; well < echoes.about(0); well++) {
            for (int what = 0; what <= 3; what++) {
                told.append(' ').append(echoes.well(well, what));
            }
        }
        for (int song = 0; song < echoes.about(1); song++) {
            told.append(" song");
            for (int what = 0; what <= 5; what++) {
                told.append(' ').append(echoes.song(song, what));
            }
        }
        long seed = echoes.seed(0L);
        echoes.seed(seed);
        return told.append(" seed ").append(seed).append(" fault ").append(echoes.fault()).toString();
    }

    /** What is shortest told of a state: an object is used for at most 512 calls. */
    private static String numbers(WellEchoes echoes) {
        StringBuilder told = new StringBuilder();
        for (int what = 1; what <= 8; what++) {
            told.append(echoes.about(what)).append(' ');
        }
        return told.toString();
    }

    /**
     * A call that is refused, or that only asks, answers what is due and changes no number; that every
     * other call answers as before it, too, is for Edge to see.
     */
    static void still(WellEchoes echoes, String call, LongSupplier got, long want) {
        String before = numbers(echoes);
        due(call, got, want);
        String after = numbers(echoes);
        that(call + " changes nothing: " + before + " / " + after, before.equals(after));
    }

    static void end(String name) {
        System.out.println(name + ": " + asked + " answers, " + wrong + " not as due");
        if (wrong != 0) {
            System.exit(1);
        }
    }
}

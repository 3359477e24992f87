import java.util.ArrayList;
import java.util.List;
import java.util.function.Supplier;

/**
 * What every call of the face answers from one state on: the questions, and the calls that change
 * something, each kind on an object of its own that is made anew, so that none is used for more than
 * 512 calls. Two states are the same when they answer alike.
 */
final class Every {
    private static final int MOST_ANSWERS = 400;

    private final List<String> told = new ArrayList<>();

    private Every() {
    }

    static List<String> answersOf(Supplier<WellEchoes> maker) {
        Every every = new Every();
        every.tellBesideSlots(maker);
        every.goOnFrom(maker.get(), 0);
        every.goOnFrom(maker.get(), 1);
        every.landAnew(maker.get());
        return every.told;
    }

    /** All that does not hang on what is kept. */
    static List<String> answersBesideSlots(Supplier<WellEchoes> maker) {
        Every every = new Every();
        every.tellBesideSlots(maker);
        return every.told;
    }

    private void tellBesideSlots(Supplier<WellEchoes> maker) {
        askOfLand(maker.get());
        askOfPlans(maker.get());
        askOfRains(maker.get());
        undoAll(maker.get());
        actOn(maker.get());
        writeOn(maker.get());
    }

    private void note(String call, long answer) {
        told.add(call + " = " + answer);
    }

    private void within512Calls(int before) {
        Check.that("few enough calls of one object", told.size() - before <= MOST_ANSWERS);
    }

    private void askOfLand(WellEchoes echoes) {
        int before = told.size();
        for (int what = -1; what <= 9; what++) {
            note("about(" + what + ")", echoes.about(what));
        }
        for (int well = 0; well <= 4; well++) {
            for (int what = 0; what <= 3; what++) {
                note("well(" + well + ", " + what + ")", echoes.well(well, what));
            }
        }
        for (int song = 0; song <= 8; song++) {
            for (int what = 0; what <= 5; what++) {
                note("song(" + song + ", " + what + ")", echoes.song(song, what));
            }
            note("songLasts(" + song + ")", echoes.songLasts(song));
        }
        for (int well = 0; well < 4; well++) {
            for (int x = 0; x <= 9; x++) {
                note("heard(" + well + ", " + x + ", false)", echoes.heard(well, x, false));
                note("heard(" + well + ", " + x + ", true)", echoes.heard(well, x, true));
            }
        }
        note("fault()", echoes.fault());
        within512Calls(before);
    }

    private void askOfPlans(WellEchoes echoes) {
        int before = told.size();
        for (int law = 0; law <= 5; law++) {
            note("lawLasts(" + law + ")", echoes.lawLasts(law));
            note("mostPitch(" + law + ")", echoes.mostPitch(law));
            note("truest(" + law + ")", echoes.truest(law));
        }
        for (int n = 0; n <= 30; n++) {
            note("lost(" + n + ")", echoes.lost(n));
        }
        for (int n = 1; n <= 9; n++) {
            note("bestLid(" + n + ")", echoes.bestLid(n));
        }
        for (int what = 0; what <= 1; what++) {
            for (int n = 1; n <= 3; n++) {
                note("plan(" + n + ", " + what + ")", echoes.plan(n, what));
                note("lords(" + n + ", " + what + ")", echoes.lords(n, what));
            }
        }
        for (int well = 0; well < 4; well++) {
            note("back(" + well + ", 1, 9)", echoes.back(well, 1, 9));
        }
        note("lamps()", echoes.lamps());
        within512Calls(before);
    }

    private void askOfRains(WellEchoes echoes) {
        int before = told.size();
        for (int law = 0; law <= 5; law++) {
            for (int r = 0; r <= 10; r++) {
                note("rain(" + law + ", " + r + ", true)", echoes.rain(law, r, true));
                note("rain(" + law + ", " + r + ", false)", echoes.rain(law, r, false));
            }
        }
        for (int r = 0; r <= 10; r++) {
            note("rains(1, " + r + ")", echoes.rains(1, r));
            note("rains(3, " + r + ")", echoes.rains(3, r));
            note("rains(20, " + r + ")", echoes.rains(20, r));
        }
        note("seed(5)", echoes.seed(5L));
        within512Calls(before);
    }

    private void noteSongs(WellEchoes echoes) {
        for (int what = 1; what <= 7; what++) {
            note("about(" + what + ")", echoes.about(what));
        }
        for (int song = 0; song < 8; song++) {
            note("song(" + song + ", 0)", echoes.song(song, 0));
            note("song(" + song + ", 2)", echoes.song(song, 2));
        }
    }

    private void undoAll(WellEchoes echoes) {
        int before = told.size();
        for (int act = 0; act < 13; act++) {
            note("undo()", echoes.undo());
            noteSongs(echoes);
        }
        within512Calls(before);
    }

    private void goOnFrom(WellEchoes echoes, int slot) {
        note("again(" + slot + ")", echoes.again(slot));
        noteSongs(echoes);
        note("undo()", echoes.undo());
        noteSongs(echoes);
        note("again(" + (1 - slot) + ")", echoes.again(1 - slot));
        noteSongs(echoes);
    }

    private void actOn(WellEchoes echoes) {
        int before = told.size();
        note("sing(0, 1, 9, 3)", echoes.sing(0, 1, 9, 3));
        note("sing(1, 0, 1, 0)", echoes.sing(1, 0, 1, 0));
        noteSongs(echoes);
        for (int year = 0; year < 3; year++) {
            note("year()", echoes.year());
            noteSongs(echoes);
        }
        for (int well = 0; well < 4; well++) {
            note("lid(" + well + ")", echoes.lid(well));
        }
        note("keep(0)", echoes.keep(0));
        note("keep(1)", echoes.keep(1));
        noteSongs(echoes);
        for (int act = 0; act < 9; act++) {
            note("undo()", echoes.undo());
        }
        noteSongs(echoes);
        within512Calls(before);
    }

    /** All that can be told of THE TEXT: how long it is, its FAULT, as it is and as it is gone on with. */
    private void writeOn(WellEchoes echoes) {
        for (char letter : "W10S0010".toCharArray()) {
            note("fault()", echoes.fault());
            note("about(8)", echoes.about(8));
            note("write(" + letter + ")", echoes.write(letter));
        }
        note("fault()", echoes.fault());
        note("wipe()", echoes.wipe());
        note("fault()", echoes.fault());
    }

    private void landAnew(WellEchoes echoes) {
        note("land()", echoes.land());
        noteSongs(echoes);
        note("again(0)", echoes.again(0));
        note("again(1)", echoes.again(1));
        note("undo()", echoes.undo());
        note("seed(0)", echoes.seed(0L));
    }
}

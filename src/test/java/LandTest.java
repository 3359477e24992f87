/** Promises 1 to 8: a new object, the text and its fault, the land. */
public final class LandTest {
    public static void main(String[] args) {
        newObject();
        constants();
        writing();
        wiping();
        faults();
        landing();
        landingAnew();
        refusedLand();
        about();
        wells();
        songs();
        Check.end("LandTest");
    }

    /** Promise 1. */
    private static void newObject() {
        WellEchoes echoes = new WellEchoes();
        for (int what = 0; what <= 8; what++) {
            Check.due("new: about(" + what + ")", echoes.about(what), 0);
        }
        Check.due("new: well", echoes.well(0, 0), WellEchoes.UNKNOWN);
        Check.due("new: song", echoes.song(0, 0), WellEchoes.UNKNOWN);
        Check.due("new: undo", echoes.undo(), WellEchoes.LATE);
        Check.due("new: seed", echoes.seed(0), 0);
        Check.due("new: again", echoes.again(0), WellEchoes.LATE);
    }

    private static void constants() {
        Check.due("UNKNOWN", WellEchoes.UNKNOWN, -1);
        Check.due("BAD", WellEchoes.BAD, -2);
        Check.due("LATE", WellEchoes.LATE, -3);
        Check.due("FULL", WellEchoes.FULL, -4);
        Check.due("NONE", WellEchoes.NONE, -9);
    }

    /** Promise 2. */
    private static void writing() {
        WellEchoes echoes = new WellEchoes();
        Check.due("write(0)", echoes.write(0), 1);
        Check.due("write(255)", echoes.write(255), 2);
        Check.still(echoes, "write(256)", () -> echoes.write(256), WellEchoes.BAD);
        Check.still(echoes, "write(-1)", () -> echoes.write(-1), WellEchoes.BAD);
        for (int length = 3; length <= 56; length++) {
            Check.due("write to " + length, echoes.write('L'), length);
        }
        Check.still(echoes, "write behind 56", () -> echoes.write('L'), WellEchoes.FULL);
        Check.still(echoes, "write(256) behind 56", () -> echoes.write(256), WellEchoes.BAD);
        Check.due("56 bytes", echoes.about(8), 56);
        Check.due("wipe of 56", echoes.wipe(), 56);
        Check.due("write behind wipe", echoes.write('L'), 1);
    }

    /** Promise 3. */
    private static void wiping() {
        WellEchoes echoes = Check.land("LW10S0010");
        Check.due("wipe", echoes.wipe(), 9);
        Check.due("nothing left", echoes.about(8), 0);
        Check.due("fault behind wipe", echoes.fault(), 0);
        Check.due("THE LAND stays", echoes.about(0) * 10 + echoes.about(1), 11);
        Check.due("wipe again", echoes.wipe(), 0);
    }

    /** Promise 4. */
    private static void faults() {
        fault("", 0);
        fault("L", WellEchoes.NONE);
        fault("W", 0);
        fault("l", 0);
        fault("LL", 1);
        fault("Lw", 1);
        fault("LW", 2);
        fault("LW0", 2);
        fault("LW:", 2);
        fault("LW9", 3);
        fault("LW93", 3);
        fault("LW9/", 3);
        fault("LW92", WellEchoes.NONE);
        fault("LW92x", 4);
        fault("LS0010W10", 1);
        fault("LW10S", 5);
        fault("LW10S6", 5);
        fault("LW10S5", 6);
        fault("LW10S51", 6);
        fault("LW10W10S51", 10);
        fault("LW10W10S52", 9);
        fault("LW10S50", 7);
        fault("LW10S500", 7);
        fault("LW10S509", 8);
        fault("LW10S5094", 8);
        fault("LW10S509/", 8);
        fault("LW10S5093", WellEchoes.NONE);
        fault("LW10S5093L", 9);
        fault("LW10S0110W10", 6);
        fault("LW10S0010W21S1193", WellEchoes.NONE);
        fault("LW10W10W10W10", WellEchoes.NONE);
        fault("LW10W10W10W10W", 13);
        fault("LW10W10W10W10S4393", WellEchoes.NONE);
        String six = "LW10S0010S0010S0010S0010S0010S0010";
        fault(six, WellEchoes.NONE);
        fault(six + "W11", WellEchoes.NONE);
        fault(six + "S", 34);
        fault("LW10\u00ff", 4);
        fault("LW10\u0000", 4);
        StringBuilder full = new StringBuilder(six);
        while (full.length() < 56) {
            full.append('W');
        }
        fault(full.toString(), 35);
    }

    private static void fault(String text, int due) {
        WellEchoes echoes = Check.written(text);
        Check.still(echoes, "fault of " + text, echoes::fault, due);
        if (due == WellEchoes.NONE) {
            Check.that("land of " + text, echoes.land() >= 0);
        } else {
            Check.still(echoes, "land of " + text, echoes::land, WellEchoes.LATE);
        }
    }

    /** Promise 5. */
    private static void landing() {
        Check.due("land of L", Check.written("L").land(), 0);
        WellEchoes echoes = Check.written("LW92S5093W31S0112");
        Check.due("land", echoes.land(), 22);
        Check.due("the text stays", echoes.about(8), 17);
        int[][] wells = {{9, 2, 0, 1}, {3, 1, 0, 2}};
        int[][] songs = {{5, 0, 9, 3, 0, 0}, {0, 1, 1, 2, 0, 0}};
        for (int number = 0; number < 2; number++) {
            for (int what = 0; what < 4; what++) {
                Check.due("well " + number + " " + what, echoes.well(number, what), wells[number][what]);
            }
            for (int what = 0; what < 6; what++) {
                Check.due("song " + number + " " + what, echoes.song(number, what), songs[number][what]);
            }
        }
        Check.due("most wells", Check.written("LW10W20W30W40").land(), 40);
    }

    private static void landingAnew() {
        WellEchoes echoes = Check.land("LW92W50S0090");
        echoes.seed(77);
        echoes.keep(0);
        echoes.sing(0, 1, 4, 2);
        echoes.year();
        echoes.lid(1);
        Check.due("land anew", echoes.land(), 21);
        Check.due("no YEAR", echoes.about(2), 0);
        Check.due("no BREATH", echoes.about(3), 0);
        Check.due("no LIDS", echoes.about(4), 0);
        Check.due("no ACTS", echoes.about(7), 0);
        Check.due("as loud as told", echoes.song(0, 2), 9);
        Check.due("no AGE", echoes.song(0, 4), 0);
        Check.due("nothing to undo", echoes.undo(), WellEchoes.LATE);
        Check.due("nothing kept", echoes.again(0), WellEchoes.LATE);
        Check.due("THE SEED stays", echoes.seed(1), 77);
        Check.rewrite(echoes, "LW11S3011");
        Check.due("LAWS of the old LAND", echoes.about(5), 1);
        Check.due("another land", echoes.land(), 11);
        Check.due("LAWS of the new LAND", echoes.about(5), 8);
    }

    private static void refusedLand() {
        WellEchoes echoes = Check.land("LW92W50S0090");
        echoes.keep(1);
        echoes.lid(0);
        echoes.write('x');
        Check.still(echoes, "land of a FAULT", echoes::land, WellEchoes.LATE);
        Check.due("still to undo", echoes.undo(), 0);
        Check.due("still kept", echoes.again(1), 1);
    }

    /** Promise 6. */
    private static void about() {
        WellEchoes echoes = Check.land("LW92W50W31S0093S5110S5122");
        echoes.lid(2);
        echoes.sing(0, 1, 7, 1);
        echoes.year();
        int[] due = {3, 3, 1, 7, 4, 33, 33, 3, 25};
        for (int what = 0; what < due.length; what++) {
            Check.due("about(" + what + ")", echoes.about(what), due[what]);
        }
        echoes.year();
        Check.due("LAWS of THE LAND", echoes.about(5), 33);
        Check.due("LAWS that are had", echoes.about(6), 1);
        Check.due("SONGS", echoes.about(1), 2);
        for (int what : new int[] {-1, 9, Integer.MIN_VALUE, Integer.MAX_VALUE}) {
            Check.still(echoes, "about(" + what + ")", () -> echoes.about(what), WellEchoes.BAD);
        }
    }

    /** Promise 7. */
    private static void wells() {
        WellEchoes echoes = Check.land("LW92W50S0093S5110S5022");
        Check.due("DEPTH", echoes.well(0, 0), 9);
        Check.due("STONE", echoes.well(0, 1), 2);
        Check.due("no LID", echoes.well(1, 2), 0);
        Check.due("SONGS in 0", echoes.well(0, 3), 5);
        Check.due("SONGS in 1", echoes.well(1, 3), 2);
        echoes.lid(1);
        Check.due("LID", echoes.well(1, 2), 1);
        Check.due("no LID on the other", echoes.well(0, 2), 0);
        for (int well : new int[] {-1, 2, 4, Integer.MIN_VALUE, Integer.MAX_VALUE}) {
            Check.still(echoes, "well " + well, () -> echoes.well(well, 9), WellEchoes.UNKNOWN);
        }
        for (int what : new int[] {-1, 4, Integer.MIN_VALUE, Integer.MAX_VALUE}) {
            Check.still(echoes, "well 0 " + what, () -> echoes.well(0, what), WellEchoes.BAD);
        }
    }

    /** Promise 8. */
    private static void songs() {
        WellEchoes echoes = Check.land("LW92W50S4093S5110");
        echoes.sing(0, 1, 8, 2);
        echoes.year();
        int[][] due = {{4, 0, 6, 3, 1, 0}, {4, 1, 7, 2, 1, 1}};
        for (int song = 0; song < due.length; song++) {
            for (int what = 0; what < 6; what++) {
                Check.due("song " + song + " " + what, echoes.song(song, what), due[song][what]);
            }
        }
        for (int song : new int[] {-1, 2, 8, Integer.MIN_VALUE, Integer.MAX_VALUE}) {
            Check.still(echoes, "song " + song, () -> echoes.song(song, 9), WellEchoes.UNKNOWN);
        }
        for (int what : new int[] {-1, 6, Integer.MIN_VALUE, Integer.MAX_VALUE}) {
            Check.still(echoes, "song 0 " + what, () -> echoes.song(0, what), WellEchoes.BAD);
        }
    }
}

/** Promises 13 to 16: what is heard, how long songs and laws last, what is lost. */
public final class HeardTest {
    public static void main(String[] args) {
        heardByWay();
        heardAtTheDepth();
        heardAtNoon();
        heardInOneWell();
        heardRefused();
        songLasts();
        songLastsRefused();
        lawLasts();
        lost();
        Check.end("HeardTest");
    }

    /** Promise 13. */
    private static void heardByWay() {
        WellEchoes echoes = Check.land("LW90S0030");
        int[] due = {1, 1, 1, 0, 0, 0, 0, 0, 0, 0};
        for (int x = 0; x < 10; x++) {
            heard(echoes, 0, x, false, due[x]);
        }
        WellEchoes old = Check.land("LW90S0060");
        for (int year = 0; year < 4; year++) {
            old.year();
        }
        int[] dueBelow = {0, 0, 0, 1, 1, 1, 0, 0, 0, 0};
        for (int x = 0; x < 10; x++) {
            heard(old, 0, x, false, dueBelow[x]);
        }
    }

    private static void heardAtTheDepth() {
        WellEchoes lamp = Check.land("LW20S0030");
        heard(lamp, 0, 9, false, 1);
        WellEchoes song = Check.land("LW20S0030");
        song.lid(0);
        for (int year = 0; year < 5; year++) {
            song.year();
        }
        heard(song, 0, 0, false, 0);
        song.lid(0);
        heard(song, 0, 0, false, 1);
        heard(song, 0, 9, false, 1);
        WellEchoes deep = Check.land("LW20S0020");
        deep.lid(0);
        deep.year();
        deep.year();
        deep.year();
        deep.lid(0);
        heard(deep, 0, 0, false, 0);
        heard(deep, 0, 1, false, 1);
    }

    private static void heardAtNoon() {
        WellEchoes echoes = Check.land("LW30S0050S0051S0052S0053");
        heard(echoes, 0, 0, false, 15);
        heard(echoes, 0, 0, true, 3);
        echoes.lid(0);
        heard(echoes, 0, 0, false, 0);
        heard(echoes, 0, 0, true, 0);
    }

    private static void heardInOneWell() {
        WellEchoes echoes = Check.land("LW30W50S0190S1091S2143");
        heard(echoes, 0, 0, false, 2);
        heard(echoes, 1, 0, false, 5);
        heard(echoes, 1, 5, false, 1);
        echoes.lid(0);
        heard(echoes, 1, 0, false, 5);
    }

    private static void heard(WellEchoes echoes, int well, int x, boolean noon, int due) {
        String call = "heard(" + well + ", " + x + ", " + noon + ")";
        Check.still(echoes, call, () -> echoes.heard(well, x, noon), due);
    }

    private static void heardRefused() {
        WellEchoes echoes = Check.land("LW90W50S0030");
        for (int well : new int[] {-1, 2, Integer.MIN_VALUE, Integer.MAX_VALUE}) {
            heard(echoes, well, 0, false, WellEchoes.UNKNOWN);
            heard(echoes, well, 10, false, WellEchoes.UNKNOWN);
        }
        for (int x : new int[] {-1, 10, Integer.MIN_VALUE, Integer.MAX_VALUE}) {
            heard(echoes, 0, x, true, WellEchoes.BAD);
        }
        echoes.lid(0);
        heard(echoes, 0, 10, true, WellEchoes.BAD);
    }

    /** Promise 14. */
    private static void songLasts() {
        songLasts(Check.land("LW10S0050"), 5);
        songLasts(Check.land("LW11S0050"), 3);
        songLasts(Check.land("LW12S0090"), 3);
        songLasts(Check.land("LW12S0010"), 1);
        songLasts(Check.land("LW10S0040S1040"), 2, 2);
        songLasts(Check.land("LW10S0020S1050"), 1, 4);
        songLasts(Check.land("LW10S0041S1040"), 4, 4);
        songLasts(Check.land("LW10W12S0010S1191S0020S0093S1191S5113"), 1, 3, 1, 9, 3, 1);
        WellEchoes lid = Check.land("LW10S0050S0040");
        lid.lid(0);
        songLasts(lid, 99, 4);
        WellEchoes cracked = Check.land("LW12S0090");
        cracked.lid(0);
        songLasts(cracked, 5);
    }

    private static void songLasts(WellEchoes echoes, int... due) {
        for (int song = 0; song < due.length; song++) {
            int asked = song;
            Check.still(echoes, "songLasts(" + song + ")", () -> echoes.songLasts(asked), due[song]);
        }
    }

    private static void songLastsRefused() {
        WellEchoes echoes = Check.land("LW10S0050");
        for (int song : new int[] {-1, 1, Integer.MIN_VALUE, Integer.MAX_VALUE}) {
            Check.still(echoes, "songLasts(" + song + ")", () -> echoes.songLasts(song), WellEchoes.UNKNOWN);
        }
    }

    /** Promise 15. */
    private static void lawLasts() {
        WellEchoes echoes = Check.land("LW10W12S0020S0090S0190S5193");
        int[] due = {8, 0, 0, 0, 0, 3};
        for (int law = 0; law < 6; law++) {
            lawLasts(echoes, law, due[law]);
        }
        echoes.lid(0);
        lawLasts(echoes, 0, 99);
        for (int law : new int[] {-1, 6, Integer.MIN_VALUE, Integer.MAX_VALUE}) {
            lawLasts(echoes, law, WellEchoes.BAD);
        }
        WellEchoes gone = Check.land("LW10S2010");
        gone.year();
        lawLasts(gone, 2, 0);
    }

    private static void lawLasts(WellEchoes echoes, int law, int due) {
        Check.still(echoes, "lawLasts(" + law + ")", () -> echoes.lawLasts(law), due);
    }

    /** Promise 16. */
    private static void lost() {
        WellEchoes echoes = Check.land("LW10W12S0020S3090S5193");
        int[] due = {0, 1, 1, 33, 33, 33, 33, 33, 41, 41};
        for (int n = 0; n < due.length; n++) {
            lost(echoes, n, due[n]);
        }
        lost(echoes, 30, 41);
        echoes.year();
        echoes.year();
        lost(echoes, 0, 1);
        echoes.lid(0);
        lost(echoes, 30, 33);
        for (int n : new int[] {-1, 31, Integer.MIN_VALUE, Integer.MAX_VALUE}) {
            lost(echoes, n, WellEchoes.BAD);
        }
    }

    private static void lost(WellEchoes echoes, int n, int due) {
        Check.still(echoes, "lost(" + n + ")", () -> echoes.lost(n), due);
    }
}

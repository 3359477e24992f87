/** Promises 9 to 12: years, songs sung on, lids, and all of it undone. */
public final class ActsTest {
    public static void main(String[] args) {
        wearByStone();
        wearByCrowd();
        goneOnesWearOthers();
        othersMoveUp();
        yearWithoutSongs();
        sungOn();
        slips();
        singRefused();
        singRefusedInOrder();
        lids();
        thirteenActs();
        refusedIsNoAct();
        Check.end("ActsTest");
    }

    private static void loud(WellEchoes echoes, int... due) {
        Check.due("SONGS", echoes.about(1), due.length);
        for (int song = 0; song < due.length; song++) {
            Check.due("how loud " + song, echoes.song(song, 2), due[song]);
        }
    }

    /** Promise 9. */
    private static void wearByStone() {
        WellEchoes echoes = Check.land("LW10W11W12S0090S0190S0290");
        Check.due("year", echoes.year(), 0);
        loud(echoes, 8, 7, 6);
        Check.due("THE YEAR", echoes.about(2), 1);
        Check.due("AGE", echoes.song(2, 4), 1);
        for (int well = 0; well < 3; well++) {
            echoes.lid(well);
        }
        Check.due("year under lids", echoes.year(), 0);
        loud(echoes, 8, 6, 4);
        Check.due("AGE under lids", echoes.song(0, 4), 2);
        Check.due("year", echoes.year(), 0);
        loud(echoes, 8, 5, 2);
        echoes.lid(2);
        Check.due("gone below 0", echoes.year(), 1);
        loud(echoes, 8, 4);
        Check.due("THE YEAR", echoes.about(2), 4);
    }

    private static void wearByCrowd() {
        WellEchoes echoes = Check.land("LW10W10S0092S1092S2092S3091S4192S5190");
        Check.due("year", echoes.year(), 0);
        loud(echoes, 6, 6, 6, 8, 8, 8);
        echoes.lid(0);
        Check.due("year under a lid", echoes.year(), 0);
        loud(echoes, 4, 4, 4, 8, 7, 7);
    }

    private static void goneOnesWearOthers() {
        WellEchoes echoes = Check.land("LW10S0010S1050");
        Check.due("year", echoes.year(), 1);
        loud(echoes, 3);
        Check.due("year alone", echoes.year(), 0);
        loud(echoes, 2);
        echoes.undo();
        loud(echoes, 3);
        echoes.undo();
        loud(echoes, 1, 5);
    }

    private static void othersMoveUp() {
        WellEchoes echoes = Check.land("LW12W10S0010S1193S2031S3182S4033");
        Check.due("year", echoes.year(), 3);
        loud(echoes, 8, 7);
        int[][] due = {{1, 1, 8, 3, 1, 0}, {3, 1, 7, 2, 1, 0}};
        for (int song = 0; song < 2; song++) {
            for (int what = 0; what < 6; what++) {
                Check.due("moved up " + song + " " + what, echoes.song(song, what), due[song][what]);
            }
        }
    }

    private static void yearWithoutSongs() {
        WellEchoes echoes = new WellEchoes();
        Check.due("year of nothing", echoes.year(), 0);
        Check.due("THE YEAR", echoes.about(2), 1);
        Check.due("an ACT", echoes.about(7), 1);
        Check.due("undo", echoes.undo(), 0);
        Check.due("THE YEAR undone", echoes.about(2), 0);
    }

    /** Promise 10. */
    private static void sungOn() {
        WellEchoes echoes = Check.land("LW10W11W12S4153S5090");
        echoes.year();
        Check.due("sing lesser", echoes.sing(0, 0, 9, 0), 2);
        Check.due("sing greater", echoes.sing(0, 1, 1, 2), 3);
        int[][] due = {{4, 1, 3, 3, 1, 0}, {5, 0, 8, 0, 1, 0}, {4, 0, 9, 0, 0, 0}, {4, 2, 1, 2, 0, 0}};
        for (int song = 0; song < due.length; song++) {
            for (int what = 0; what < 6; what++) {
                Check.due("song " + song + " " + what, echoes.song(song, what), due[song][what]);
            }
        }
        Check.due("BREATH", echoes.about(3), 10);
        Check.due("ACTS", echoes.about(7), 3);
        Check.due("undo", echoes.undo(), 2);
        Check.due("BREATH undone", echoes.about(3), 9);
        Check.due("SONGS", echoes.about(1), 3);
    }

    /** A slip more out of a cracked WELL alone; 9 at most. */
    private static void slips() {
        WellEchoes echoes = Check.land("LW12W12S0090");
        for (int slip = 1; slip <= 7; slip++) {
            Check.due("sing", echoes.sing(slip - 1, slip % 2, slip == 7 ? 9 : 1, slip % 4), slip);
            Check.due("SLIPS", echoes.song(slip, 5), slip);
        }
        Check.due("the faint ones are gone", echoes.year(), 6);
        for (int slip = 8; slip <= 11; slip++) {
            Check.due("sing", echoes.sing(slip - 7, slip % 2, 9, slip % 4), slip - 6);
            Check.due("SLIPS", echoes.song(slip - 6, 5), Math.min(slip, 9));
        }
        WellEchoes mixed = Check.land("LW12W10W11S0090");
        Check.due("sing", mixed.sing(0, 1, 5, 0), 1);
        Check.due("out of a cracked one", mixed.song(1, 5), 1);
        Check.due("sing", mixed.sing(1, 0, 5, 0), 2);
        Check.due("out of a smooth one into a cracked one", mixed.song(2, 5), 1);
        Check.due("sing", mixed.sing(1, 1, 5, 0), 3);
        Check.due("sing", mixed.sing(3, 0, 5, 0), 4);
        Check.due("out of a rough one", mixed.song(4, 5), 1);
        Check.due("sing", mixed.sing(2, 1, 5, 0), 5);
        Check.due("a second slip", mixed.song(5, 5), 2);
        Check.due("the old one's stay", mixed.song(0, 5), 0);
    }

    private static void singRefused() {
        WellEchoes echoes = Check.land("LW10W10W10S0090S1290");
        sing(echoes, 2, 0, 5, 0, WellEchoes.UNKNOWN);
        sing(echoes, -1, 0, 5, 0, WellEchoes.UNKNOWN);
        sing(echoes, Integer.MIN_VALUE, 0, 5, 0, WellEchoes.UNKNOWN);
        sing(echoes, Integer.MAX_VALUE, 0, 5, 0, WellEchoes.UNKNOWN);
        sing(echoes, 0, -1, 5, 0, WellEchoes.BAD);
        sing(echoes, 0, 2, 5, 0, WellEchoes.BAD);
        sing(echoes, 0, 1, 0, 0, WellEchoes.BAD);
        sing(echoes, 0, 1, 10, 0, WellEchoes.BAD);
        sing(echoes, 0, 1, 5, -1, WellEchoes.BAD);
        sing(echoes, 0, 1, 5, 4, WellEchoes.BAD);
        sing(echoes, 0, 0, 5, 0, WellEchoes.LATE);
        sing(echoes, 1, 1, 5, 0, WellEchoes.LATE);
        echoes.lid(1);
        sing(echoes, 0, 1, 5, 0, WellEchoes.LATE);
        sing(echoes, 1, 0, 5, 0, WellEchoes.LATE);
        echoes.lid(1);
        echoes.lid(0);
        sing(echoes, 0, 1, 5, 0, WellEchoes.LATE);
        Check.due("other wells", echoes.sing(1, 0, 5, 0), 2);
    }

    private static void singRefusedInOrder() {
        WellEchoes echoes = Check.land("LW10W10S0090S0091S0092S0093S0190S0191");
        Check.due("seventh", echoes.sing(0, 1, 9, 3), 6);
        Check.due("eighth", echoes.sing(0, 1, 9, 3), 7);
        sing(echoes, 0, 1, 5, 0, WellEchoes.FULL);
        sing(echoes, 0, 0, 5, 0, WellEchoes.LATE);
        sing(echoes, 0, 0, 5, 4, WellEchoes.BAD);
        sing(echoes, 8, 2, 0, 4, WellEchoes.UNKNOWN);
        echoes.lid(0);
        sing(echoes, 0, 1, 5, 0, WellEchoes.LATE);
        Check.due("eight", echoes.about(1), 8);
    }

    private static void sing(WellEchoes echoes, int song, int side, int voice, int pitch, int due) {
        String call = "sing(" + song + ", " + side + ", " + voice + ", " + pitch + ")";
        Check.still(echoes, call, () -> echoes.sing(song, side, voice, pitch), due);
    }

    /** Promise 11. */
    private static void lids() {
        WellEchoes echoes = Check.land("LW10W10W10W10");
        Check.due("lid(3)", echoes.lid(3), 1);
        Check.due("lid(1)", echoes.lid(1), 1);
        Check.due("LIDS", echoes.about(4), 10);
        Check.due("lid(3) off", echoes.lid(3), 0);
        Check.due("LIDS", echoes.about(4), 2);
        Check.due("undo", echoes.undo(), 2);
        Check.due("LIDS undone", echoes.about(4), 10);
        for (int well : new int[] {-1, 4, 32, Integer.MIN_VALUE, Integer.MAX_VALUE}) {
            Check.still(echoes, "lid(" + well + ")", () -> echoes.lid(well), WellEchoes.UNKNOWN);
        }
        WellEchoes none = new WellEchoes();
        Check.still(none, "lid of no land", () -> none.lid(0), WellEchoes.UNKNOWN);
    }

    /** Promise 12; Promise12UndoTest has what is undone. */
    private static void thirteenActs() {
        WellEchoes echoes = Check.land("LW10S0090");
        echoes.year();
        for (int act = 0; act < 14; act++) {
            echoes.lid(0);
            Check.due("ACTS", echoes.about(7), Math.min(act + 2, 12));
        }
        Check.due("LIDS", echoes.about(4), 0);
        for (int left = 11; left >= 0; left--) {
            Check.due("undo", echoes.undo(), left);
        }
        Check.still(echoes, "the first ones are forgotten", echoes::undo, WellEchoes.LATE);
        Check.due("the YEAR stays", echoes.about(2), 1);
        Check.due("LIDS", echoes.about(4), 0);
        Check.due("an ACT anew", echoes.lid(0), 1);
        Check.due("ACTS", echoes.about(7), 1);
    }

    private static void refusedIsNoAct() {
        WellEchoes echoes = Check.land("LW10S0090");
        echoes.lid(7);
        echoes.sing(0, 0, 5, 0);
        Check.due("ACTS", echoes.about(7), 0);
        Check.due("undo", echoes.undo(), WellEchoes.LATE);
    }
}

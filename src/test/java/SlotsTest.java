/** Promises 27 and 28: what is kept, and gone on from. */
public final class SlotsTest {
    public static void main(String[] args) {
        keptAndGoneOnFrom();
        twoSlots();
        keptAnew();
        nothingKept();
        emptyLand();
        refused();
        Check.end("SlotsTest");
    }

    /** Promises 27 and 28. */
    private static void keptAndGoneOnFrom() {
        WellEchoes echoes = Check.land("LW12W12S0093S1110");
        echoes.sing(0, 1, 8, 2);
        echoes.year();
        echoes.lid(1);
        String kept = withoutActs(echoes);
        Check.still(echoes, "keep", () -> echoes.keep(1), 2);
        Check.due("ACTS stay", echoes.about(7), 3);
        echoes.year();
        echoes.lid(1);
        echoes.sing(0, 1, 3, 3);
        echoes.wipe();
        echoes.seed(44);
        Check.due("again", echoes.again(1), 2);
        Check.due("no ACTS", echoes.about(7), 0);
        Check.due("the text is not kept", echoes.about(8), 0);
        Check.due("THE SEED is not kept", echoes.seed(0), 44);
        Check.that("as it was kept", kept.equals(withoutActs(echoes)));
        Check.due("undo", echoes.undo(), WellEchoes.LATE);
        echoes.year();
        Check.due("again, again", echoes.again(1), 2);
        Check.that("as it was kept", kept.equals(withoutActs(echoes)));
        Check.due("LAWS of THE LAND stay", echoes.about(5), 3);
    }

    /** SONGS, LIDS, THE YEAR, BREATH. */
    private static String withoutActs(WellEchoes echoes) {
        StringBuilder told = new StringBuilder();
        for (int what = 1; what <= 4; what++) {
            told.append(echoes.about(what)).append(' ');
        }
        String state = Check.state(echoes);
        return told + state.substring(state.indexOf("wells"), state.indexOf("seed"));
    }

    private static void twoSlots() {
        WellEchoes echoes = Check.land("LW12S0093S1010");
        Check.due("keep(0)", echoes.keep(0), 2);
        echoes.year();
        Check.due("keep(1)", echoes.keep(1), 1);
        echoes.year();
        echoes.year();
        Check.due("none left", echoes.about(1), 0);
        Check.due("again(0)", echoes.again(0), 2);
        Check.due("THE YEAR", echoes.about(2), 0);
        Check.due("again(1)", echoes.again(1), 1);
        Check.due("THE YEAR", echoes.about(2), 1);
        Check.due("again(0)", echoes.again(0), 2);
    }

    private static void keptAnew() {
        WellEchoes echoes = Check.land("LW12S0093S1010");
        echoes.keep(0);
        echoes.year();
        Check.due("keep(0) anew", echoes.keep(0), 1);
        echoes.undo();
        Check.due("two", echoes.about(1), 2);
        Check.due("again", echoes.again(0), 1);
        Check.due("land", echoes.land(), 12);
        Check.still(echoes, "gone by land", () -> echoes.again(0), WellEchoes.LATE);
    }

    private static void nothingKept() {
        WellEchoes echoes = Check.land("LW12S0093");
        echoes.year();
        Check.still(echoes, "again(0)", () -> echoes.again(0), WellEchoes.LATE);
        Check.still(echoes, "again(1)", () -> echoes.again(1), WellEchoes.LATE);
        echoes.keep(1);
        Check.still(echoes, "again(0)", () -> echoes.again(0), WellEchoes.LATE);
        Check.due("undo", echoes.undo(), 0);
    }

    private static void emptyLand() {
        WellEchoes echoes = new WellEchoes();
        Check.due("keep", echoes.keep(0), 0);
        echoes.year();
        Check.due("again", echoes.again(0), 0);
        Check.due("THE YEAR", echoes.about(2), 0);
    }

    private static void refused() {
        WellEchoes echoes = Check.land("LW12S0093");
        echoes.year();
        for (int slot : new int[] {-1, 2, 32, Integer.MIN_VALUE, Integer.MAX_VALUE}) {
            Check.still(echoes, "keep(" + slot + ")", () -> echoes.keep(slot), WellEchoes.UNKNOWN);
            Check.still(echoes, "again(" + slot + ")", () -> echoes.again(slot), WellEchoes.UNKNOWN);
        }
    }
}

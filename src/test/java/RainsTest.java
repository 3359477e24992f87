/** Promises 24 to 26: the chance of a rain, the seed, rains by the seed. */
public final class RainsTest {
    private static final int[] FAR = {-1, Integer.MIN_VALUE, Integer.MAX_VALUE};
    private static final long TIMES = 6364136223846793005L;
    private static final long AND = 1442695040888963407L;

    public static void main(String[] args) {
        oneWell();
        moreWells();
        lidsAndLoudOnes();
        rainRefused();
        seed();
        rainsByHand();
        rainsBySeed();
        rainsUnderLids();
        rainsRefused();
        Check.end("RainsTest");
    }

    private static void rain(WellEchoes echoes, int law, int r, int upper, int lower) {
        String call = "rain(" + law + ", " + r + ", ";
        Check.still(echoes, call + "true)", () -> echoes.rain(law, r, true), upper);
        Check.still(echoes, call + "false)", () -> echoes.rain(law, r, false), lower);
    }

    /** Promise 24. */
    private static void oneWell() {
        WellEchoes echoes = Check.land("LW10S0030S0011S1042");
        rain(echoes, 0, 0, 1, 1);
        rain(echoes, 0, 1, 9, 10);
        rain(echoes, 0, 2, 4, 5);
        rain(echoes, 0, 3, 7, 10);
        rain(echoes, 0, 5, 1, 2);
        rain(echoes, 0, 10, 0, 1);
        rain(echoes, 1, 10, 1, 1);
        rain(echoes, 1, 3, 1, 1);
        rain(echoes, 2, 0, 0, 1);
        rain(echoes, 2, 3, 0, 1);
        rain(new WellEchoes(), 5, 10, 0, 1);
    }

    private static void moreWells() {
        WellEchoes echoes = Check.land("LW10W10W10W10S0030S0130S0210S0310S1032S1133");
        rain(echoes, 0, 3, 9919, 10000);
        rain(echoes, 0, 5, 15, 16);
        rain(echoes, 0, 10, 0, 1);
        rain(echoes, 0, 0, 1, 1);
        rain(echoes, 1, 2, 24, 25);
        rain(echoes, 1, 3, 91, 100);
        rain(echoes, 1, 9, 19, 100);
    }

    private static void lidsAndLoudOnes() {
        WellEchoes echoes = Check.land("LW10W10W10S0030S0130S1020S1242");
        rain(echoes, 0, 3, 91, 100);
        rain(echoes, 1, 10, 1, 1);
        echoes.lid(1);
        rain(echoes, 0, 3, 1, 1);
        rain(echoes, 0, 10, 1, 1);
        echoes.lid(1);
        echoes.lid(2);
        rain(echoes, 0, 3, 91, 100);
        rain(echoes, 1, 10, 1, 1);
        WellEchoes first = Check.land("LW10W10S0040S0130");
        rain(first, 0, 10, 1, 1);
        first.year();
        rain(first, 0, 5, 3, 4);
        first.lid(0);
        rain(first, 0, 10, 1, 1);
    }

    private static void rainRefused() {
        WellEchoes echoes = Check.land("LW10S0030");
        for (int far : FAR) {
            rain(echoes, far, 0, WellEchoes.BAD, WellEchoes.BAD);
            rain(echoes, 0, far, WellEchoes.BAD, WellEchoes.BAD);
        }
        rain(echoes, 6, 0, WellEchoes.BAD, WellEchoes.BAD);
        rain(echoes, 0, 11, WellEchoes.BAD, WellEchoes.BAD);
        rain(echoes, 5, 11, WellEchoes.BAD, WellEchoes.BAD);
    }

    /** Promise 25. */
    private static void seed() {
        WellEchoes echoes = new WellEchoes();
        Check.due("at first", echoes.seed(Long.MIN_VALUE), 0);
        Check.due("what it was", echoes.seed(Long.MAX_VALUE), Long.MIN_VALUE);
        Check.due("what it was", echoes.seed(-1), Long.MAX_VALUE);
        Check.due("what it was", echoes.seed(0), -1);
        Check.due("no ACT", echoes.about(7), 0);
    }

    /** Promise 26: flooded for sure, or never, it can be told without THE SEED. */
    private static void rainsByHand() {
        int[] due = {1, 1, 0, 0};
        for (int m = 1; m <= 4; m++) {
            WellEchoes echoes = Check.land("LW10S0090");
            Check.due("rains(" + m + ", 10)", echoes.rains(m, 10), due[m - 1]);
        }
        WellEchoes dry = Check.land("LW10W12S0090S4190S5191");
        Check.due("rains(2, 0)", dry.rains(2, 0), 49);
        Check.due("rains(3, 0)", dry.rains(3, 0), 1);
        Check.due("rains(9, 0)", dry.rains(9, 0), 0);
        Check.due("the songs stay", dry.about(1), 3);
        Check.due("THE YEAR stays", dry.about(2), 0);
        Check.due("no ACTS", dry.about(7), 0);
        WellEchoes steps = Check.land("LW10S0020");
        Check.due("rains(1, 10)", steps.rains(1, 10), 0);
        Check.due("x went on", steps.seed(0), AND);
    }

    private static void rainsBySeed() {
        for (int r = 0; r <= 10; r++) {
            WellEchoes echoes = Check.land("LW10W10S0040S5140");
            long x = r * 987654321987654321L;
            echoes.seed(x);
            int due = 0;
            for (int well = 0; well < 2; well++) {
                x = x * TIMES + AND;
                int upper = (int) (x >>> 33);
                due |= upper % 10 < r ? 0 : well == 0 ? 1 : 32;
            }
            String before = Check.state(echoes).replaceAll("seed.*", "");
            Check.due("rains(1, " + r + ")", echoes.rains(1, r), due);
            Check.that("nothing else changes", before.equals(Check.state(echoes).replaceAll("seed.*", "")));
            Check.due("x", echoes.seed(0), x);
        }
    }

    private static void rainsUnderLids() {
        WellEchoes echoes = Check.land("LW10W10S0040S5140");
        echoes.lid(0);
        echoes.seed(5);
        Check.due("rains(3, 10)", echoes.rains(3, 10), 1);
        long x = 5;
        for (int time = 0; time < 3; time++) {
            x = x * TIMES + AND;
        }
        Check.due("one step a time", echoes.seed(5), x);
        echoes.lid(1);
        Check.due("rains(20, 10)", echoes.rains(20, 10), 33);
        Check.due("no steps", echoes.seed(0), 5);
    }

    private static void rains(WellEchoes echoes, int m, int r, int due) {
        Check.still(echoes, "rains(" + m + ", " + r + ")", () -> echoes.rains(m, r), due);
    }

    private static void rainsRefused() {
        WellEchoes echoes = Check.land("LW10S0040");
        for (int far : FAR) {
            rains(echoes, far, 5, WellEchoes.BAD);
            rains(echoes, 1, far, WellEchoes.BAD);
        }
        rains(echoes, 0, 5, WellEchoes.BAD);
        rains(echoes, 21, 5, WellEchoes.BAD);
        rains(echoes, 20, 11, WellEchoes.BAD);
    }
}

/** Promise 26, rains: 1 .. 20 times a YEAR, then floods by THE SEED with 0 .. 10 tenths. */
public final class Promise26RainsTest {
    private static final long TIMES = 6364136223846793005L;
    private static final long AND = 1442695040888963407L;

    public static void main(String[] args) {
        Edge.run(Promise26RainsTest.class);
    }

    private static long inverse() {
        long inverse = TIMES;
        for (int step = 0; step < 6; step++) {
            inverse *= 2 - TIMES * inverse;
        }
        return inverse;
    }

    /** THE SEED from which one step is to x. */
    private static long aheadOf(long x) {
        return (x - AND) * inverse();
    }

    private static long behind(long x, int steps) {
        long last = x;
        for (int step = 0; step < steps; step++) {
            last = last * TIMES + AND;
        }
        return last;
    }

    private static void refused(Edge.State state, int m, int r) {
        Edge.refused(state, "rains(" + m + ", " + r + ")", echoes -> echoes.rains(m, r), WellEchoes.BAD);
    }

    static void promise26BadTimesOutside1To20() {
        for (Edge.State state : Edge.State.values()) {
            for (int m : Edge.outside(1, 20)) {
                refused(state, m, 0);
                refused(state, m, 10);
            }
        }
    }

    static void promise26BadTenthsOutside0To10() {
        for (Edge.State state : Edge.State.values()) {
            for (int r : Edge.outside(0, 10)) {
                refused(state, 1, r);
                refused(state, 20, r);
            }
        }
    }

    static void promise26BothBad() {
        for (Edge.State state : Edge.State.values()) {
            refused(state, 0, -1);
            refused(state, 21, 11);
        }
    }

    /** One WELL, where a flood takes the SONG; THE SEED goes to x. */
    private static void flooded(long x, int r, boolean due) {
        WellEchoes echoes = Check.land("LW10S2040");
        echoes.seed(aheadOf(x));
        Check.due("x " + x + ", r " + r, echoes.rains(1, r), due ? 0 : 4);
        Check.due("THE SEED", echoes.seed(0), x);
    }

    /** What is left by 10, and one more and one less than r, whatever the lower 33 bits are. */
    static void promise26LessThanR() {
        for (long left = 0; left <= 9; left++) {
            for (int r = 0; r <= 10; r++) {
                flooded(left << 33, r, left < r);
                flooded((left << 33) + (1L << 33) - 1, r, left < r);
                flooded(left + 10 << 33, r, left < r);
                flooded(left + 214748363L * 10 << 33, r, left < r);
            }
        }
    }

    /** The upper 31 bits are no number below 0: they are 2147483647 at most, and that leaves 7. */
    static void promise26UpperBits() {
        flooded(-1L, 7, false);
        flooded(-1L, 8, true);
        flooded(-1L << 33, 7, false);
        flooded(-1L << 33, 8, true);
        flooded(Long.MAX_VALUE, 3, false);
        flooded(Long.MAX_VALUE, 4, true);
        flooded(Long.MIN_VALUE, 4, false);
        flooded(Long.MIN_VALUE, 5, true);
        flooded(0L, 0, false);
        flooded(0L, 1, true);
        flooded((1L << 33) - 1, 1, true);
        flooded(1L << 33, 1, false);
        flooded(1L << 33, 2, true);
        flooded(1L << 32, 1, true);
        flooded(Integer.MAX_VALUE, 1, true);
    }

    static void promise26NeverBy0ForSureBy10() {
        for (int seed = 0; seed < 200; seed++) {
            WellEchoes echoes = Check.land("LW10W10S0040S5140");
            echoes.seed(seed * 1234567890123L);
            Check.due("never", echoes.rains(1, 0), 33);
            Check.due("for sure", echoes.rains(1, 10), 0);
        }
    }

    /** A YEAR goes by first; then 3 is the loudest that a flood takes. */
    static void promise26TheYearThenTheFlood() {
        for (int loud = 1; loud <= 9; loud++) {
            for (int m = 1; m <= 20; m++) {
                WellEchoes echoes = Check.land("LW10S30" + loud + "0");
                Check.due("loud " + loud + ", rains(" + m + ", 10)", echoes.rains(m, 10), loud > 4 * m ? 8 : 0);
                Check.due("loud " + loud + ", rains(" + m + ", 0)", echoes.rains(m, 0), loud > m ? 8 : 0);
            }
        }
    }

    /** One that is gone by the YEAR has worn the other one, and then comes the flood. */
    static void promise26TheYearIsNotBehindTheFlood() {
        Check.due("5 is 3 by the YEAR", Check.land("LW10S0050S1010").rains(1, 10), 0);
        Check.due("6 is 4 by the YEAR", Check.land("LW10S0060S1010").rains(1, 10), 1);
        Check.due("7 of three is 4 by the YEAR", Check.land("LW10S0070S1010S2010").rains(1, 10), 1);
        Check.due("6 of three is 3 by the YEAR", Check.land("LW10S0060S1010S2010").rains(1, 10), 0);
    }

    /** THE SEED by which a WELL alone is flooded in the first of so many times, and then no more. */
    private static long floodedOnce(int times) {
        for (long seed = 0; ; seed++) {
            boolean isFit = (behind(seed, 1) >>> 33) % 10 < 5;
            for (int step = 2; step <= times; step++) {
                isFit &= (behind(seed, step) >>> 33) % 10 >= 5;
            }
            if (isFit) {
                return seed;
            }
        }
    }

    /** The flood takes the second one; from then on the first one is alone. */
    static void promise26GoneByTheFloodWearsNoOneNextYear() {
        WellEchoes echoes = Check.land("LW10S0090S1050");
        long seed = floodedOnce(5);
        int[] due = {1, 1, 1, 1, 0};
        for (int m = 1; m <= due.length; m++) {
            echoes.seed(seed);
            Check.due("rains(" + m + ", 5)", echoes.rains(m, 5), due[m - 1]);
        }
    }

    /** Those that a flood takes wear no one any more. */
    static void promise26GoneOnesWearNoOne() {
        WellEchoes echoes = Check.land("LW10S0090S1050");
        Check.due("rains(1, 10)", echoes.rains(1, 10), 1);
        Check.due("rains(2, 10)", echoes.rains(2, 10), 0);
        WellEchoes two = Check.land("LW10S0090S1060");
        Check.due("rains(1, 10)", two.rains(1, 10), 3);
        Check.due("rains(2, 10)", two.rains(2, 10), 0);
        Check.due("rains(3, 0)", two.rains(3, 0), 1);
        Check.due("rains(6, 0)", two.rains(6, 0), 0);
        WellEchoes long9 = Check.land("LW10S0090S1010");
        Check.due("rains(6, 0)", long9.rains(6, 0), 1);
        Check.due("rains(7, 0)", long9.rains(7, 0), 1);
        Check.due("rains(8, 0)", long9.rains(8, 0), 0);
    }

    /** For each WELL a step, by number: of four WELLS the one whose step leaves less than r. */
    static void promise26EachWellByItsNumber() {
        for (int place = 0; place < 4; place++) {
            for (int r = 1; r <= 9; r++) {
                WellEchoes echoes = Check.land("LW10W10W10W10S0040S1140S2240S3340");
                long before = aheadOf(7L << 33);
                for (int step = 0; step < place; step++) {
                    before = aheadOf(before);
                }
                echoes.seed(before);
                int due = 0;
                for (int well = 0; well < 4; well++) {
                    long x = behind(before, well + 1);
                    due |= (int) ((x >>> 33) % 10) < r ? 0 : 1 << well;
                }
                Check.due("7 in WELL " + place, due >> place & 1, r <= 7 ? 1 : 0);
                Check.due("rains(1, " + r + ")", echoes.rains(1, r), due);
                Check.due("four steps", echoes.seed(0), behind(before, 4));
            }
        }
    }

    static void promise26NoStepUnderALid() {
        for (int lids = 0; lids < 16; lids++) {
            WellEchoes echoes = Check.land("LW10W10W10W10S0040S1140S2240S3340");
            for (int well = 0; well < 4; well++) {
                if ((lids >> well & 1) == 1) {
                    echoes.lid(well);
                }
            }
            echoes.seed(99);
            Check.due("LIDS " + lids, echoes.rains(1, 10), lids);
            Check.due("THE SEED", echoes.seed(99), behind(99, 4 - Integer.bitCount(lids)));
            Check.due("LIDS " + lids, echoes.rains(20, 10), lids);
            Check.due("THE SEED", echoes.seed(99), behind(99, 20 * (4 - Integer.bitCount(lids))));
        }
    }

    /** A step for each WELL also when it has no SONGS, when all are gone, and by 0 tenths. */
    static void promise26AStepInAnyCase() {
        for (int m = 1; m <= 20; m++) {
            WellEchoes empty = Check.land("LW10W92W11");
            Check.due("rains", empty.rains(m, 5), 0);
            Check.due("THE SEED", empty.seed(0), behind(0, 3 * m));
            WellEchoes never = Check.land("LW10W10S0010");
            never.rains(m, 0);
            Check.due("THE SEED", never.seed(0), behind(0, 2 * m));
        }
    }

    static void promise26NoWellsNoStep() {
        Edge.changesNothing(Edge.State.NEW, "rains(20, 10)", echoes -> echoes.rains(20, 10), 0);
        Edge.changesNothing(Edge.State.FAULTY, "rains(1, 5)", echoes -> echoes.rains(1, 5), 0);
        Edge.changesNothing(Edge.State.EMPTY, "rains(1, 0)", echoes -> echoes.rains(1, 0), 0);
        Edge.changesNothing(Edge.State.LIDDED, "rains(1, 10)", echoes -> echoes.rains(1, 10), 7);
        Edge.changesNothing(Edge.State.LIDDED, "rains(20, 10)", echoes -> echoes.rains(20, 10), 1);
    }

    /** The next ones go on from THE SEED where these stopped. */
    static void promise26GoesOnFromTheSeed() {
        WellEchoes one = Check.land("LW10W10S0090S1190");
        WellEchoes two = Check.land("LW10W10S0090S1190");
        one.rains(7, 4);
        for (int time = 0; time < 7; time++) {
            two.rains(1, 4);
        }
        Check.due("steps", one.seed(0), two.seed(0));
    }

    static void promise26NothingChangesButTheSeed() {
        int[] steps = {0, 0, 0, 2, 0, 3};
        long[] seeds = {0, 3, 0, 77, 0, -1};
        for (Edge.State state : Edge.State.values()) {
            for (int m : new int[] {1, 3, 20}) {
                long due = behind(seeds[state.ordinal()], m * steps[state.ordinal()]);
                Edge.same(state + " behind rains(" + m + ", 6)", () -> {
                    WellEchoes echoes = state.make();
                    echoes.rains(m, 6);
                    return echoes;
                }, Every.answersOf(() -> {
                    WellEchoes echoes = state.make();
                    echoes.seed(due);
                    return echoes;
                }));
            }
        }
    }

    static void promise26LawsAreBits() {
        for (int law = 0; law <= 5; law++) {
            Check.due("rains", Check.land("LW10S" + law + "020").rains(1, 0), 1 << law);
        }
        Check.due("all", Check.land("LW10W10S0090S1091S2092S3190S4191S5192").rains(1, 0), 63);
        Check.due("none", Check.land("LW10W10S0040S1041S2042S3140S4141S5142").rains(1, 10), 0);
    }
}

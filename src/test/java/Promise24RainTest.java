/** Promise 24, rain: the chance that a LAW is had behind it, by r of 0 .. 10 tenths, in least terms. */
public final class Promise24RainTest {
    public static void main(String[] args) {
        Edge.run(Promise24RainTest.class);
    }

    private static void rain(WellEchoes echoes, int law, int r, int above, int below) {
        Check.due("rain(" + law + ", " + r + ", true)", echoes.rain(law, r, true), above);
        Check.due("rain(" + law + ", " + r + ", false)", echoes.rain(law, r, false), below);
    }

    private static void refused(Edge.State state, int law, int r) {
        for (boolean upper : new boolean[] {true, false}) {
            Edge.refused(state, "rain(" + law + ", " + r + ", " + upper + ")", echoes -> echoes.rain(law, r, upper),
                    WellEchoes.BAD);
        }
    }

    static void promise24BadLawOutside0To5() {
        for (Edge.State state : Edge.State.values()) {
            for (int law : Edge.outside(0, 5)) {
                refused(state, law, 0);
                refused(state, law, 10);
            }
        }
    }

    static void promise24BadTenthsOutside0To10() {
        for (Edge.State state : Edge.State.values()) {
            for (int r : Edge.outside(0, 10)) {
                refused(state, 0, r);
                refused(state, 5, r);
            }
        }
    }

    static void promise24BothBad() {
        for (Edge.State state : Edge.State.values()) {
            refused(state, 6, 11);
            refused(state, -1, -1);
        }
    }

    /** A LAW that no WELL has now: 0 of 1, whatever the rain. */
    static void promise24NoWellHasIt() {
        Edge.State[] states = {Edge.State.NEW, Edge.State.FAULTY, Edge.State.EMPTY};
        for (int r = 0; r <= 10; r++) {
            for (int law = 0; law <= 5; law++) {
                for (Edge.State state : states) {
                    rain(state.make(), law, r, 0, 1);
                }
                rain(Check.land("LW10W10S" + (law + 1) % 6 + "090"), law, r, 0, 1);
            }
        }
        WellEchoes gone = Check.land("LW10S0010");
        gone.year();
        rain(gone, 0, 0, 0, 1);
    }

    /** 3 is the loudest that is gone when its WELL is flooded. */
    static void promise24LessLoudBy3() {
        for (int loud = 1; loud <= 9; loud++) {
            boolean isLeft = loud > 3;
            rain(Check.land("LW10S00" + loud + "0"), 0, 10, isLeft ? 1 : 0, 1);
            rain(Check.land("LW12S00" + loud + "3"), 0, 5, 1, isLeft ? 1 : 2);
        }
    }

    /** By 0 tenths never, by 10 for sure; between them in least terms. */
    static void promise24TenthsInLeastTerms() {
        int[][] due = {{1, 1}, {9, 10}, {4, 5}, {7, 10}, {3, 5}, {1, 2}, {2, 5}, {3, 10}, {1, 5}, {1, 10}, {0, 1}};
        for (int law = 0; law <= 5; law++) {
            WellEchoes echoes = Check.land("LW10S" + law + "030");
            for (int r = 0; r <= 10; r++) {
                rain(echoes, law, r, due[r][0], due[r][1]);
            }
        }
    }

    private static int common(int one, int other) {
        return other == 0 ? one : common(other, one % other);
    }

    /** Each WELL by itself: it is gone if all of them are flooded, four at most. */
    static void promise24InOneToFourWells() {
        String text = "LW10W10W10W10";
        int all = 1;
        for (int wells = 1; wells <= 4; wells++) {
            text += "S2" + (wells - 1) + "30";
            all *= 10;
            WellEchoes echoes = Check.land(text);
            for (int r = 0; r <= 10; r++) {
                int flooded = 1;
                for (int well = 0; well < wells; well++) {
                    flooded *= r;
                }
                int common = common(all, all - flooded);
                rain(echoes, 2, r, (all - flooded) / common, all / common);
            }
        }
        WellEchoes four = Check.land(text);
        rain(four, 2, 1, 9999, 10000);
        rain(four, 2, 9, 3439, 10000);
        rain(four, 2, 5, 15, 16);
        rain(four, 2, 10, 0, 1);
    }

    /** More SONGS in one WELL are flooded together. */
    static void promise24TwoInOneWell() {
        rain(Check.land("LW10S0010S0031S0022"), 0, 5, 1, 2);
        rain(Check.land("LW10S0010S0041S0022"), 0, 10, 1, 1);
        rain(Check.land("LW10W10S0010S0031S0122"), 0, 5, 3, 4);
    }

    static void promise24UnderALidNothingIsFlooded() {
        WellEchoes echoes = Check.land("LW10W10S0010S0110");
        rain(echoes, 0, 10, 0, 1);
        echoes.lid(1);
        for (int r = 0; r <= 10; r++) {
            rain(echoes, 0, r, 1, 1);
        }
        echoes.lid(1);
        rain(echoes, 0, 5, 3, 4);
        WellEchoes other = Check.land("LW10W10S0010S1110");
        other.lid(1);
        rain(other, 0, 5, 1, 2);
        rain(other, 1, 10, 1, 1);
    }

    /** A LID on a WELL that doesn't have the LAW keeps none of its SONGS. */
    static void promise24ALidElsewhereIsNothing() {
        for (int law = 0; law <= 5; law++) {
            for (int well = 0; well < 4; well++) {
                WellEchoes echoes = Check.land("LW10W10W10W10S" + law + well + "30");
                for (int other = 0; other < 4; other++) {
                    if (other != well) {
                        echoes.lid(other);
                    }
                }
                rain(echoes, law, 10, 0, 1);
                rain(echoes, law, 1, 9, 10);
                rain(echoes, (law + 1) % 6, 0, 0, 1);
            }
        }
    }

    /** No YEAR goes by: as loud as they are now. */
    static void promise24AsLoudAsTheyAreNow() {
        WellEchoes echoes = Check.land("LW10S0050");
        rain(echoes, 0, 10, 1, 1);
        echoes.year();
        rain(echoes, 0, 10, 1, 1);
        echoes.year();
        rain(echoes, 0, 10, 0, 1);
        rain(echoes, 0, 3, 7, 10);
    }

    /** Neither their AGE nor their SLIPS count, nor where they lie in the row. */
    static void promise24HoweverOldTheyAre() {
        WellEchoes echoes = Check.land("LW10W10S0040S1130");
        Edge.growOlder(echoes, 20);
        rain(echoes, 0, 10, 1, 1);
        rain(echoes, 1, 4, 3, 5);
        WellEchoes slips = Check.land("LW12W10S0010S1193");
        slips.sing(0, 1, 4, 0);
        slips.year();
        Edge.song(slips, 1, 0, 1, 3, 0, 1, 1);
        rain(slips, 0, 2, 4, 5);
    }

    /** A WELL that has others of its LAWS alone doesn't count. */
    static void promise24OtherLawsDoNotCount() {
        WellEchoes echoes = Check.land("LW10W10W10S0010S1110S1191S0230");
        rain(echoes, 0, 5, 3, 4);
        rain(echoes, 1, 10, 1, 1);
        rain(echoes, 2, 0, 0, 1);
    }

    static void promise24OfEightSongs() {
        WellEchoes full = Edge.State.FULL.make();
        rain(full, 0, 10, 1, 1);
        rain(full, 1, 10, 0, 1);
        rain(full, 2, 4, 3, 5);
        rain(full, 3, 10, 1, 1);
        rain(full, 4, 10, 1, 1);
        rain(full, 5, 7, 51, 100);
    }

    static void promise24OnlyAsks() {
        for (Edge.State state : Edge.State.values()) {
            Edge.onlyAsks(state, "rain(0, 0, true)", echoes -> echoes.rain(0, 0, true));
            Edge.onlyAsks(state, "rain(5, 10, false)", echoes -> echoes.rain(5, 10, false));
            Edge.onlyAsks(state, "rain(1, 3, false)", echoes -> echoes.rain(1, 3, false));
        }
    }
}

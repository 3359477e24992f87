/** Promise 18, bestLid: the WELL on which a LID is put for 1 .. 9 YEARS. */
public final class Promise18BestLidTest {
    public static void main(String[] args) {
        Edge.run(Promise18BestLidTest.class);
    }

    private static void best(String text, int n, int due) {
        Check.due("bestLid(" + n + ") of " + text, Check.land(text).bestLid(n), due);
    }

    static void promise18BadOutside1To9() {
        for (Edge.State state : Edge.State.values()) {
            for (int n : Edge.outside(1, 9)) {
                Edge.refused(state, "bestLid(" + n + ")", echoes -> echoes.bestLid(n), WellEchoes.BAD);
            }
        }
    }

    static void promise18NothingThereYet() {
        for (int n = 1; n <= 9; n++) {
            int years = n;
            Edge.changesNothing(Edge.State.NEW, "bestLid", echoes -> echoes.bestLid(years), WellEchoes.NONE);
            Edge.changesNothing(Edge.State.EMPTY, "bestLid", echoes -> echoes.bestLid(years), WellEchoes.NONE);
            best("LW10W10", n, WellEchoes.NONE);
        }
    }

    /** A LID counts from the YEAR on by which the LAW would be gone, at the first and the last of them. */
    static void promise18NoneHasMoreThanWithoutIt() {
        for (int loud = 1; loud <= 9; loud++) {
            for (int n = 1; n <= 9; n++) {
                best("LW10S00" + loud + "0", n, n < loud ? WellEchoes.NONE : 0);
            }
        }
        best("LW10S0010", 1, 0);
        best("LW10S0020", 1, WellEchoes.NONE);
        best("LW10S0090", 8, WellEchoes.NONE);
        best("LW10S0090", 9, 0);
    }

    /** In a rough WELL a LID helps from one YEAR up to another alone. */
    static void promise18NoLongerThanItHelps() {
        for (int n = 1; n <= 9; n++) {
            best("LW11S0060", n, n < 3 || n > 5 ? WellEchoes.NONE : 0);
            best("LW12S0090", n, n < 3 || n > 4 ? WellEchoes.NONE : 0);
        }
    }

    static void promise18OfLikeOnesTheLeast() {
        best("LW10W10W10W10S0310S1210", 1, 2);
        best("LW10W10W10W10S0010S1110S2210S3310", 1, 0);
        best("LW90W10W10W10S0310S1110S2210", 9, 1);
    }

    static void promise18MostAheadOfLeast() {
        best("LW10W10S0010S1110S2111", 1, 1);
        best("LW10W10W10W10S0010S1110S2311S3312", 1, 3);
        best("LW10W10W10W10S0310", 9, 3);
    }

    static void promise18ThoseThatHaveOneDoNotCount() {
        WellEchoes echoes = Check.land("LW10W10W10W10S0010S1110S2210S3310");
        for (int well = 0; well < 4; well++) {
            Check.due("bestLid", echoes.bestLid(1), well);
            echoes.lid(well);
        }
        Check.due("all have one", echoes.bestLid(1), WellEchoes.NONE);
        Check.due("all have one", echoes.bestLid(9), WellEchoes.NONE);
        echoes.lid(2);
        Check.due("that one", echoes.bestLid(1), 2);
    }

    /** Held against LIDS as they are: what they keep is had without one more. */
    static void promise18WithoutItLidsAreAsTheyAre() {
        WellEchoes echoes = Check.land("LW10W10W10S0010S1210");
        echoes.lid(0);
        Check.due("the other one, too", echoes.bestLid(1), 2);
        echoes.lid(2);
        Check.due("all are kept", echoes.bestLid(1), WellEchoes.NONE);
        Check.due("all are kept", echoes.bestLid(9), WellEchoes.NONE);
        WellEchoes empty = Check.land("LW10W10S0010");
        empty.lid(0);
        Check.due("an empty WELL", empty.bestLid(1), WellEchoes.NONE);
    }

    /** SONGS as they are, however many YEARS have gone by. */
    static void promise18AsTheyAreNow() {
        WellEchoes echoes = Check.land("LW10W10W10W10S0090S1191S2292S3393");
        for (int year = 1; year <= 8; year++) {
            echoes.year();
            Check.due("not yet gone", echoes.bestLid(1), year < 8 ? WellEchoes.NONE : 0);
            Check.due("by 9 YEARS", echoes.bestLid(9), 0);
        }
    }

    /** By a LID three of one PITCH stay a YEAR longer and wear the fourth; it is not taken off. */
    static void promise18ALidMayCostALaw() {
        WellEchoes echoes = Check.land("LW10W10S0040S0040S0040S1060");
        Check.due("lost without it", echoes.lost(2), 1);
        Check.due("bestLid", echoes.bestLid(2), WellEchoes.NONE);
        echoes.lid(0);
        Check.due("lost by it", echoes.lost(2), 3);
        Check.due("bestLid", echoes.bestLid(2), WellEchoes.NONE);
        Check.due("of three YEARS", echoes.bestLid(3), WellEchoes.NONE);
        WellEchoes both = Check.land("LW10W10S0040S0040S0040S1060S2120");
        Check.due("the other WELL", both.bestLid(2), 1);
    }

    /** Also when nothing is had behind the YEARS, by no LID. */
    static void promise18NoLawIsHadWhateverIsLidded() {
        WellEchoes echoes = Check.land("LW12W12S0010S1110");
        for (int n = 1; n <= 9; n++) {
            Check.due("bestLid without LIDS", echoes.bestLid(n), WellEchoes.NONE);
        }
        echoes.lid(0);
        for (int n = 1; n <= 9; n++) {
            Check.due("bestLid with one", echoes.bestLid(n), WellEchoes.NONE);
        }
        echoes.lid(1);
        for (int n = 1; n <= 9; n++) {
            Check.due("bestLid with both", echoes.bestLid(n), WellEchoes.NONE);
        }
    }

    /** A LAW that another WELL has behind the YEARS is not had twice. */
    static void promise18LawsAreCountedOnce() {
        best("LW10W10S0010S0190", 1, WellEchoes.NONE);
        best("LW10W10S0010S0190S1191", 9, 1);
        best("LW10W10S0010S0011S0012S1111", 1, 0);
        best("LW10W10S0010S0011S1111S2112", 1, 1);
    }

    static void promise18OnlyAsks() {
        for (Edge.State state : Edge.State.values()) {
            for (int n = 1; n <= 9; n += 4) {
                int years = n;
                Edge.onlyAsks(state, "bestLid(" + n + ")", echoes -> echoes.bestLid(years));
            }
        }
    }
}

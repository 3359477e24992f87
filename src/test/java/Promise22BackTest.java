/** Promise 22, back: how loud a SONG alone in a WELL was 0 .. 9 YEARS ago. */
public final class Promise22BackTest {
    public static void main(String[] args) {
        Edge.run(Promise22BackTest.class);
    }

    private static void refused(Edge.State state, int well, int v, int n, int due) {
        Edge.refused(state, "back(" + well + ", " + v + ", " + n + ")", echoes -> echoes.back(well, v, n), due);
    }

    static void promise22UnknownOutsideTheWells() {
        for (Edge.State state : Edge.State.values()) {
            for (int well : Edge.outside(0, state.wells - 1)) {
                refused(state, well, 1, 0, WellEchoes.UNKNOWN);
                refused(state, well, 9, 9, WellEchoes.UNKNOWN);
            }
        }
    }

    static void promise22BadLoudnessOutside1To9() {
        for (int v : Edge.outside(1, 9)) {
            refused(Edge.State.ORDINARY, 0, v, 0, WellEchoes.BAD);
            refused(Edge.State.FULL, 3, v, 9, WellEchoes.BAD);
        }
    }

    static void promise22BadYearsOutside0To9() {
        for (int n : Edge.outside(0, 9)) {
            refused(Edge.State.ORDINARY, 2, 1, n, WellEchoes.BAD);
            refused(Edge.State.FULL, 0, 9, n, WellEchoes.BAD);
        }
    }

    static void promise22UnknownAheadOfBad() {
        for (Edge.State state : Edge.State.values()) {
            refused(state, state.wells, 0, 0, WellEchoes.UNKNOWN);
            refused(state, state.wells, 1, 10, WellEchoes.UNKNOWN);
            refused(state, -1, 10, -1, WellEchoes.UNKNOWN);
        }
        refused(Edge.State.LIDDED, 1, 0, 10, WellEchoes.BAD);
    }

    /** So loud that by as many YEARS, alone, it is as loud as it is now; beyond 9, too. */
    static void promise22EveryStoneLidLoudnessAndYear() {
        for (int stone = 0; stone <= 2; stone++) {
            WellEchoes echoes = Check.land("LW9" + stone + "S0090S0090");
            for (int lid = 0; lid <= 1; lid++) {
                for (int v = 1; v <= 9; v++) {
                    for (int n = 0; n <= 9; n++) {
                        Check.due("STONE " + stone + ", LID " + lid + ", back(0, " + v + ", " + n + ")",
                                echoes.back(0, v, n), v + n * (stone + 1 - lid));
                    }
                }
                echoes.lid(0);
            }
        }
    }

    /** By the LID of that WELL alone, and by its STONE. */
    static void promise22EachWellByItsOwn() {
        for (int lids = 0; lids < 16; lids++) {
            WellEchoes echoes = Check.land("LW10W91W52W10");
            int[] stones = {0, 1, 2, 0};
            for (int well = 0; well < 4; well++) {
                if ((lids >> well & 1) == 1) {
                    echoes.lid(well);
                }
            }
            for (int well = 0; well < 4; well++) {
                int wear = stones[well] + 1 - (lids >> well & 1);
                Check.due("LIDS " + lids + ", WELL " + well, echoes.back(well, 4, 3), 4 + 3 * wear);
            }
        }
    }

    static void promise22LeastAndGreatest() {
        WellEchoes echoes = Check.land("LW10W12");
        Check.due("0 YEARS ago", echoes.back(0, 1, 0), 1);
        Check.due("0 YEARS ago", echoes.back(1, 9, 0), 9);
        Check.due("loudest of all", echoes.back(1, 9, 9), 36);
        echoes.lid(0);
        Check.due("never less loud", echoes.back(0, 1, 9), 1);
    }

    static void promise22OnlyAsks() {
        Edge.onlyAsks(Edge.State.FULL, "back(3, 9, 9)", echoes -> echoes.back(3, 9, 9));
        Edge.onlyAsks(Edge.State.ORDINARY, "back(2, 1, 9)", echoes -> echoes.back(2, 1, 9));
    }
}

/** Promise 23, lords: 1 .. 3 turns, then 4 YEARS; the first wants most LAWS, the other fewest. */
public final class Promise23LordsTest {
    public static void main(String[] args) {
        Edge.run(Promise23LordsTest.class);
    }

    private static void lords(WellEchoes echoes, int n, int laws, int first) {
        Check.due("lords(" + n + ", 0)", echoes.lords(n, 0), laws);
        Check.due("lords(" + n + ", 1)", echoes.lords(n, 1), first);
    }

    private static void lords(String text, int n, int laws, int first) {
        Check.begin("promise23 of " + text);
        lords(Check.land(text), n, laws, first);
    }

    private static void refused(Edge.State state, int n, int what) {
        Edge.refused(state, "lords(" + n + ", " + what + ")", echoes -> echoes.lords(n, what), WellEchoes.BAD);
    }

    static void promise23BadTurnsOutside1To3() {
        for (Edge.State state : Edge.State.values()) {
            for (int n : Edge.outside(1, 3)) {
                refused(state, n, 0);
                refused(state, n, 1);
            }
        }
    }

    static void promise23BadWhatOutside0To1() {
        for (Edge.State state : Edge.State.values()) {
            for (int what : Edge.outside(0, 1)) {
                refused(state, 1, what);
                refused(state, 3, what);
            }
        }
    }

    static void promise23BothBad() {
        for (Edge.State state : Edge.State.values()) {
            refused(state, 0, -1);
            refused(state, 4, 2);
        }
    }

    static void promise23NothingThereYet() {
        for (int n = 1; n <= 3; n++) {
            lords(Edge.State.NEW.make(), n, 0, 0);
            lords(Edge.State.FAULTY.make(), n, 0, 0);
            lords(Edge.State.EMPTY.make(), n, 0, 0);
            lords("LW10W11W12W90", n, 0, 0);
        }
    }

    /** By one turn: had behind 4 YEARS without a LID, by one alone, or not at all. */
    static void promise23Behind4Years() {
        for (int loud = 1; loud <= 9; loud++) {
            for (int stone = 0; stone <= 2; stone++) {
                boolean isHad = loud > 4 * (stone + 1);
                boolean isHadByLid = loud > 4 * stone;
                lords("LW1" + stone + "S00" + loud + "0", 1, isHadByLid ? 1 : 0, isHadByLid && !isHad ? 1 : 0);
            }
        }
    }

    /** 0 nothing, 1 and the WELL. */
    static void promise23TheFirstAndTheLastWell() {
        lords("LW10W10W10W10S0040", 1, 1, 1);
        lords("LW10W10W10W10S0140", 1, 1, 2);
        lords("LW10W10W10W10S0240", 1, 1, 3);
        lords("LW10W10W10W10S0340", 1, 1, 4);
        lords("LW10W10W10W10S0340S1050S2241S3242", 1, 3, 3);
    }

    static void promise23OfLikeOnesTheLeast() {
        lords("LW10W10W10W10S0050S1150", 1, 2, 0);
        lords("LW10W10W10W10S0240S1340", 1, 1, 3);
        lords("LW10W10W10W10S0340S1240", 1, 1, 3);
        lords("LW10W10W10W10S0341S1240S2342", 1, 2, 4);
    }

    /** What one lord puts on the other one takes off. */
    static void promise23ByTwoTurns() {
        lords("LW10S0040", 2, 0, 0);
        lords("LW10S0050", 2, 1, 0);
        lords("LW10W10S0040S1140", 2, 0, 0);
        WellEchoes one = Check.land("LW10W10S0040S1140");
        one.lid(0);
        lords(one, 1, 2, 2);
        lords(one, 2, 1, 2);
        one.lid(1);
        lords(one, 1, 2, 0);
        lords(one, 2, 1, 0);
        WellEchoes last = Check.land("LW10W10W10W10S0240S1340");
        last.lid(2);
        lords(last, 2, 1, 4);
    }

    /** The first has the last turn, too. */
    static void promise23ByThreeTurns() {
        lords("LW10S0040", 3, 1, 0);
        lords("LW12S0080", 3, 0, 0);
        lords("LW10W10S0040S1140", 3, 1, 0);
        WellEchoes one = Check.land("LW10W10S0040S1140");
        one.lid(0);
        lords(one, 3, 2, 2);
        one.lid(1);
        lords(one, 3, 2, 0);
        WellEchoes last = Check.land("LW10W10W10W10S0240S1340");
        last.lid(2);
        lords(last, 3, 2, 4);
    }

    static void promise23LidsThatAreThere() {
        WellEchoes echoes = Check.land("LW10S0010");
        echoes.lid(0);
        lords(echoes, 1, 1, 0);
        lords(echoes, 2, 0, 0);
        lords(echoes, 3, 1, 0);
        WellEchoes all = Check.land("LW10W10W10W10S0040S1140S2240S3340");
        for (int well = 0; well < 4; well++) {
            all.lid(well);
        }
        lords(all, 1, 4, 0);
        lords(all, 2, 3, 0);
        lords(all, 3, 4, 0);
    }

    static void promise23LawsThatAreGone() {
        WellEchoes echoes = Check.land("LW10S0010S1091");
        echoes.year();
        for (int n = 1; n <= 3; n++) {
            lords(echoes, n, 1, 0);
        }
    }

    static void promise23OnlyAsks() {
        for (Edge.State state : Edge.State.values()) {
            for (int n = 1; n <= 3; n++) {
                int turns = n;
                Edge.onlyAsks(state, "lords(" + n + ", 0)", echoes -> echoes.lords(turns, 0));
                Edge.onlyAsks(state, "lords(" + n + ", 1)", echoes -> echoes.lords(turns, 1));
            }
        }
    }
}

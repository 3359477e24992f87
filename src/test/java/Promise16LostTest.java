/** Promise 16, lost: LAWS of THE LAND that no WELL has behind 0 .. 30 YEARS. */
public final class Promise16LostTest {
    public static void main(String[] args) {
        Edge.run(Promise16LostTest.class);
    }

    static void promise16BadOutside0To30() {
        for (Edge.State state : Edge.State.values()) {
            for (int n : Edge.outside(0, 30)) {
                Edge.refused(state, "lost(" + n + ")", echoes -> echoes.lost(n), WellEchoes.BAD);
            }
        }
    }

    static void promise16Behind0YearsAsItIsNow() {
        WellEchoes echoes = Check.land("LW10S0010S5020");
        Check.due("lost(0)", echoes.lost(0), 0);
        Check.due("lost(1)", echoes.lost(1), 33);
        WellEchoes two = Check.land("LW10S0010S5021");
        two.year();
        Check.due("lost(0)", two.lost(0), 1);
        Check.due("lost(1)", two.lost(1), 33);
    }

    /** Lost behind as many YEARS as the LAW lasts, and not behind one less. */
    static void promise16AtTheYearByWhichItIsGone() {
        for (int loud = 1; loud <= 9; loud++) {
            WellEchoes echoes = Check.land("LW10S50" + loud + "0");
            for (int n = 0; n <= 30; n++) {
                Check.due("as loud as " + loud + ", lost(" + n + ")", echoes.lost(n), n < loud ? 0 : 32);
            }
        }
    }

    static void promise16Behind30Years() {
        WellEchoes echoes = Check.land("LW10W10S0090S1190");
        Check.due("lost(30)", echoes.lost(30), 3);
        echoes.lid(1);
        Check.due("lost(30)", echoes.lost(30), 1);
        echoes.lid(0);
        Check.due("lost(30)", echoes.lost(30), 0);
    }

    static void promise16NothingThereYet() {
        for (Edge.State state : new Edge.State[] {Edge.State.NEW, Edge.State.FAULTY, Edge.State.EMPTY}) {
            WellEchoes echoes = state.make();
            for (int n = 0; n <= 30; n++) {
                Check.due("lost(" + n + ")", echoes.lost(n), 0);
            }
        }
    }

    /** LAWS that THE LAND never had are not lost. */
    static void promise16LawsOfTheLandAlone() {
        for (int law = 0; law <= 5; law++) {
            WellEchoes echoes = Check.land("LW10S" + law + "010");
            Check.due("lost(30)", echoes.lost(30), 1 << law);
            Check.due("lost(0)", echoes.lost(0), 0);
        }
    }

    static void promise16AllSixLaws() {
        WellEchoes echoes = Check.land("LW12S0010S1010S2010S3010S4010S5010");
        Check.due("lost(0)", echoes.lost(0), 0);
        Check.due("lost(1)", echoes.lost(1), 63);
        echoes.year();
        Check.due("lost(0)", echoes.lost(0), 63);
        Check.due("lost(30)", echoes.lost(30), 63);
        int[] due = {0, 38, 54, 55, 55};
        for (int n = 0; n < due.length; n++) {
            Check.due("of eight, lost(" + n + ")", Edge.State.FULL.make().lost(n), due[n]);
        }
    }

    static void promise16OnlyAsks() {
        Edge.onlyAsks(Edge.State.FULL, "lost(0)", echoes -> echoes.lost(0));
        Edge.onlyAsks(Edge.State.FULL, "lost(30)", echoes -> echoes.lost(30));
        Edge.onlyAsks(Edge.State.ORDINARY, "lost(2)", echoes -> echoes.lost(2));
    }
}

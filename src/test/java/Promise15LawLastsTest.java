/** Promise 15, lawLasts: behind how many YEARS no WELL has a LAW; 0: none has it now; 99: not by 99. */
public final class Promise15LawLastsTest {
    public static void main(String[] args) {
        Edge.run(Promise15LawLastsTest.class);
    }

    private static void lasts(WellEchoes echoes, int... due) {
        for (int law = 0; law < due.length; law++) {
            Check.due("lawLasts(" + law + ")", echoes.lawLasts(law), due[law]);
        }
    }

    static void promise15BadOutside0To5() {
        for (Edge.State state : Edge.State.values()) {
            for (int law : Edge.outside(0, 5)) {
                Edge.refused(state, "lawLasts(" + law + ")", echoes -> echoes.lawLasts(law), WellEchoes.BAD);
            }
        }
    }

    static void promise15LeastAndGreatestLaw() {
        lasts(Check.land("LW10S0010"), 1, 0, 0, 0, 0, 0);
        lasts(Check.land("LW10S5090"), 0, 0, 0, 0, 0, 9);
    }

    static void promise15NoneHasItNow() {
        for (Edge.State state : new Edge.State[] {Edge.State.NEW, Edge.State.FAULTY, Edge.State.EMPTY}) {
            lasts(state.make(), 0, 0, 0, 0, 0, 0);
        }
        WellEchoes gone = Check.land("LW10S0010S1021");
        gone.year();
        lasts(gone, 0, 1, 0, 0, 0, 0);
    }

    static void promise15Alone() {
        for (int stone = 0; stone <= 2; stone++) {
            for (int loud = 1; loud <= 9; loud++) {
                WellEchoes echoes = Check.land("LW1" + stone + "S30" + loud + "0");
                lasts(echoes, 0, 0, 0, (loud + stone) / (stone + 1), 0, 0);
                echoes.lid(0);
                lasts(echoes, 0, 0, 0, stone == 0 ? 99 : (loud + stone - 1) / stone, 0, 0);
            }
        }
    }

    /** As long as its longest SONG, wherever that lies. */
    static void promise15TheLongestOfItsSongs() {
        lasts(Check.land("LW10W10W12S0010S0180S0290"), 8);
        lasts(Check.land("LW10W10W12S0180S0010S0290"), 8);
        WellEchoes lid = Check.land("LW10W10S0090S0110S1190");
        lasts(lid, 9, 8);
        lid.lid(1);
        lasts(lid, 9, 99);
        lid.lid(0);
        lasts(lid, 99, 99);
    }

    static void promise15NotBy99Years() {
        WellEchoes echoes = Check.land("LW10S0010");
        lasts(echoes, 1);
        echoes.lid(0);
        lasts(echoes, 99);
        for (int year = 0; year < 120; year++) {
            echoes.year();
        }
        lasts(echoes, 99);
        echoes.lid(0);
        lasts(echoes, 1);
    }

    /** Copies of one LAW wear each other as any two do. */
    static void promise15CopiesOfOnePitch() {
        lasts(Check.land("LW10S0040S0040"), 2);
        lasts(Check.land("LW10S0040S0041"), 4);
    }

    static void promise15OfEight() {
        lasts(Edge.State.FULL.make(), 3, 1, 1, 99, 2, 1);
    }

    static void promise15OnlyAsks() {
        for (int law = 0; law <= 5; law++) {
            int asked = law;
            Edge.onlyAsks(Edge.State.FULL, "lawLasts(" + law + ")", echoes -> echoes.lawLasts(asked));
        }
    }
}

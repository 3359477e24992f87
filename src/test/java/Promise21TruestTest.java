/** Promise 21, truest: a LAW's SONG with fewest SLIPS, of like ones the first. */
public final class Promise21TruestTest {
    public static void main(String[] args) {
        Edge.run(Promise21TruestTest.class);
    }

    static void promise21BadOutside0To5() {
        for (Edge.State state : Edge.State.values()) {
            for (int law : Edge.outside(0, 5)) {
                Edge.refused(state, "truest(" + law + ")", echoes -> echoes.truest(law), WellEchoes.BAD);
            }
        }
    }

    static void promise21ThereIsNone() {
        for (int law = 0; law <= 5; law++) {
            int asked = law;
            Edge.changesNothing(Edge.State.NEW, "truest", echoes -> echoes.truest(asked), WellEchoes.NONE);
            Edge.changesNothing(Edge.State.EMPTY, "truest", echoes -> echoes.truest(asked), WellEchoes.NONE);
        }
        WellEchoes gone = Check.land("LW10S5010");
        Check.due("one", gone.truest(5), 0);
        Check.due("of another LAW", gone.truest(4), WellEchoes.NONE);
        gone.year();
        Check.due("gone", gone.truest(5), WellEchoes.NONE);
    }

    static void promise21OfLikeOnesTheFirst() {
        WellEchoes echoes = Check.land("LW10W10S0010S5110S5011S0111S5012");
        Check.due("LAW 0", echoes.truest(0), 0);
        Check.due("LAW 5", echoes.truest(5), 1);
        echoes.year();
        WellEchoes sixth = Check.land("LW10S0010S0010S0010S0010S0010S5010");
        Check.due("the last of six", sixth.truest(5), 5);
    }

    /** With a slip ahead of one without; then the one is gone, then again. */
    static void promise21FewestSlips() {
        WellEchoes echoes = Check.land("LW92W90W90S0010S0213S1290");
        Check.due("of two", echoes.truest(0), 0);
        echoes.sing(0, 1, 9, 1);
        echoes.sing(1, 0, 9, 2);
        Check.due("the first one", echoes.truest(0), 0);
        echoes.year();
        Edge.song(echoes, 1, 0, 1, 8, 1, 1, 1);
        Edge.song(echoes, 2, 0, 1, 8, 2, 1, 0);
        Check.due("a slip ahead", echoes.truest(0), 2);
        echoes.undo();
        Check.due("undone", echoes.truest(0), 0);
    }

    /** A LID hides none of them, and how loud, how old they are is nothing. */
    static void promise21UnderLidsToo() {
        WellEchoes echoes = Check.land("LW10W10S0010S0191S0192");
        echoes.lid(0);
        Check.due("the first one", echoes.truest(0), 0);
        echoes.lid(1);
        Check.due("the first one", echoes.truest(0), 0);
        WellEchoes slips = Check.land("LW12W10S0090S1190");
        slips.sing(0, 1, 9, 1);
        slips.lid(0);
        for (int year = 0; year < 3; year++) {
            Check.due("the old one", slips.truest(0), 0);
            slips.year();
        }
    }

    /** 9 SLIPS are as many as 9. */
    static void promise21MostSlips() {
        WellEchoes echoes = Check.land("LW12W12S0090");
        int song = 0;
        for (int slips = 1; slips <= 7; slips++) {
            song = echoes.sing(song, slips % 2, slips == 7 ? 9 : 1, slips % 4);
            Check.due("without SLIPS", echoes.truest(0), 0);
        }
        echoes.year();
        echoes.year();
        Edge.loud(echoes, 2, 2);
        song = 1;
        for (int slips = 8; slips <= 10; slips++) {
            song = echoes.sing(song, slips % 2, 9, slips % 4);
            Check.due("SLIPS", echoes.song(song, 5), Math.min(slips, 9));
        }
        Check.due("without SLIPS", echoes.truest(0), 0);
        Check.due("both old ones are gone", echoes.year(), 2);
        Check.due("8 SLIPS", echoes.song(0, 5), 8);
        Check.due("8 ahead of 9 and 9", echoes.truest(0), 0);
    }

    static void promise21TheLastOfEight() {
        WellEchoes echoes = Check.land("LW12W10S0010S0010S0010S0010S0010S5190");
        for (int copy = 6; copy < 8; copy++) {
            echoes.sing(5, 0, 9, copy % 4);
            Check.due("ahead of its copies", echoes.truest(5), 5);
        }
        echoes.year();
        Check.due("moved up", echoes.truest(5), 0);
        Check.due("LAW 0 is gone", echoes.truest(0), WellEchoes.NONE);
    }

    static void promise21OnlyAsks() {
        for (int law = 0; law <= 5; law++) {
            int asked = law;
            Edge.onlyAsks(Edge.State.ORDINARY, "truest(" + law + ")", echoes -> echoes.truest(asked));
        }
    }
}

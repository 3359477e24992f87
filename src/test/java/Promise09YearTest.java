/** Promise 9, year: songs wear, those not louder than 0 are gone, others move up and grow older. */
public final class Promise09YearTest {
    public static void main(String[] args) {
        Edge.run(Promise09YearTest.class);
    }

    /** A SONG of LAW 0 among others of its PITCH in one WELL; how loud it is behind a YEAR, 0 if gone. */
    private static int loudBehind(int stone, boolean lid, int loud, int others) {
        StringBuilder text = new StringBuilder("LW1").append(stone).append("S00").append(loud).append("0");
        for (int other = 0; other < others; other++) {
            text.append("S1090");
        }
        WellEchoes echoes = Check.land(text.toString());
        if (lid) {
            echoes.lid(0);
        }
        echoes.year();
        return echoes.song(0, 0) == 0 ? echoes.song(0, 2) : 0;
    }

    /** 1, 2, 3 by STONE, 1 less by a LID, 1 more by each other: at every loudness, so at its last one. */
    static void promise09EveryStoneLidCrowdAndLoudness() {
        for (int stone = 0; stone <= 2; stone++) {
            for (int others = 0; others <= 5; others++) {
                for (int loud = 1; loud <= 9; loud++) {
                    String song = "STONE " + stone + ", " + others + " others, as loud as " + loud;
                    int wear = stone + 1 + others;
                    Check.due(song, loudBehind(stone, false, loud, others), Math.max(loud - wear, 0));
                    Check.due(song + ", LID", loudBehind(stone, true, loud, others), Math.max(loud - wear + 1, 0));
                }
            }
        }
    }

    static void promise09NotLouderThan0IsGone() {
        Check.due("1 left", loudBehind(0, false, 2, 0), 1);
        Check.due("0 is gone", loudBehind(0, false, 1, 0), 0);
        Check.due("below 0 is gone", loudBehind(2, false, 1, 0), 0);
        Check.due("by a LID it stays", loudBehind(0, true, 1, 0), 1);
        WellEchoes echoes = Check.land("LW10S0010S1021");
        Check.due("one is gone", echoes.year(), 1);
        Edge.song(echoes, 0, 1, 0, 1, 1, 1, 0);
        Check.due("the other, too", echoes.year(), 1);
        Check.due("no SONGS", echoes.about(1), 0);
        Check.due("none to go", echoes.year(), 0);
    }

    static void promise09OtherPitchesAndOtherWellsDontWear() {
        WellEchoes echoes = Check.land("LW10W10S0090S0091S0092S0093S0190S0191");
        Check.due("year", echoes.year(), 0);
        Edge.loud(echoes, 8, 8, 8, 8, 8, 8);
    }

    /** Of two, in any WELLS and of any PITCHES: only of one PITCH in one WELL. */
    static void promise09EveryWellAndPitch() {
        for (int one = 0; one < 16; one++) {
            for (int other = 0; other < 16; other++) {
                WellEchoes echoes = Check.land("LW10W10W10W10S0" + one / 4 + "9" + one % 4
                        + "S1" + other / 4 + "9" + other % 4);
                echoes.year();
                int due = one == other ? 7 : 8;
                Edge.loud(echoes, due, due);
            }
        }
    }

    /** As many of one PITCH as one WELL can have: seven, and the one that was sung on into it. */
    static void promise09SevenInOneWell() {
        WellEchoes echoes = Check.land("LW10W10W10W10S0393S1393S2393S3393S4393S5293");
        echoes.sing(5, 1, 9, 3);
        echoes.sing(5, 1, 8, 3);
        Check.due("eight", echoes.about(1), 8);
        Check.due("year", echoes.year(), 0);
        Edge.loud(echoes, 2, 2, 2, 2, 2, 8, 2, 1);
        Check.due("year", echoes.year(), 7);
        Edge.loud(echoes, 7);
    }

    /** Two of one PITCH wear each other whatever their LAWS. */
    static void promise09TwoOfOnePitchWearEachOther() {
        WellEchoes echoes = Check.land("LW10W10S0092S5092S0192S1090");
        Check.due("year", echoes.year(), 0);
        Edge.loud(echoes, 7, 7, 8, 8);
    }

    /** All as they are at its beginning: one that is gone wears those ahead of it and behind it. */
    static void promise09AsTheyAreAtItsBeginning() {
        WellEchoes echoes = Check.land("LW10S0050S1010S2050");
        Check.due("year", echoes.year(), 1);
        Edge.loud(echoes, 2, 2);
        Check.due("next year", echoes.year(), 2);
        WellEchoes two = Check.land("LW10S0010S1060");
        two.year();
        Edge.loud(two, 4);
        two.year();
        Edge.loud(two, 3);
    }

    static void promise09OthersMoveUp() {
        WellEchoes echoes = Check.land("LW10W12S0110S1091S2110S3192S4010S5083");
        Check.due("year", echoes.year(), 3);
        Edge.song(echoes, 0, 1, 0, 8, 1, 1, 0);
        Edge.song(echoes, 1, 3, 1, 6, 2, 1, 0);
        Edge.song(echoes, 2, 5, 0, 7, 3, 1, 0);
        Check.due("no more", echoes.song(3, 0), WellEchoes.UNKNOWN);
        Check.due("SONGS of WELL 0", echoes.well(0, 3), 5);
        Check.due("SONGS of WELL 1", echoes.well(1, 3), 2);
    }

    static void promise09TheFirstAndTheLastOneGo() {
        WellEchoes echoes = Check.land("LW10S0010S1091S2012");
        Check.due("year", echoes.year(), 2);
        Edge.song(echoes, 0, 1, 0, 8, 1, 1, 0);
        Check.due("one is left", echoes.about(1), 1);
    }

    static void promise09AllEightGo() {
        WellEchoes echoes = Check.land("LW10W10S0010S1010S2010S3010S4010S5010");
        echoes.sing(0, 1, 1, 0);
        echoes.sing(1, 1, 1, 0);
        Check.due("eight", echoes.about(1), 8);
        Check.due("year", echoes.year(), 8);
        Edge.about(echoes, 2, 0, 1, 2, 0, 63, 0, 3);
    }

    static void promise09NoneOfEightGoes() {
        WellEchoes echoes = Edge.State.FULL.make();
        echoes.undo();
        Check.due("eight", echoes.about(1), 8);
        Check.due("year", echoes.year(), 0);
        Edge.loud(echoes, 5, 3, 3, 8, 4, 2, 5, 3);
    }

    static void promise09AgeOfEachThatIsLeftIs1More() {
        WellEchoes echoes = Check.land("LW10W10S0090S1191");
        echoes.year();
        echoes.sing(0, 1, 9, 2);
        echoes.year();
        Check.due("AGE", echoes.song(0, 4), 2);
        Check.due("AGE", echoes.song(1, 4), 2);
        Check.due("AGE of the new one", echoes.song(2, 4), 1);
    }

    static void promise09TheYearIs1More() {
        for (Edge.State state : Edge.State.values()) {
            WellEchoes echoes = state.make();
            int before = echoes.about(2);
            echoes.year();
            Check.due("THE YEAR in " + state, echoes.about(2), before + 1);
        }
    }

    static void promise09NoSongsYet() {
        for (Edge.State state : new Edge.State[] {Edge.State.NEW, Edge.State.FAULTY, Edge.State.EMPTY}) {
            WellEchoes echoes = state.make();
            int acts = echoes.about(7);
            Check.due("year in " + state, echoes.year(), 0);
            Check.due("ACTS", echoes.about(7), acts + 1);
            Check.due("SONGS", echoes.about(1), 0);
        }
    }

    static void promise09AnActWhenTheRowIsFull() {
        WellEchoes echoes = Edge.State.FULL.make();
        Check.due("year", echoes.year(), 4);
        Check.due("ACTS", echoes.about(7), 12);
        Edge.loud(echoes, 3, 8, 2, 3);
        Edge.song(echoes, 3, 0, 1, 3, 2, 3, 0);
    }

    static void promise09NothingElseIsChanged() {
        WellEchoes echoes = Edge.State.ORDINARY.make();
        echoes.year();
        Edge.about(echoes, 3, 4, 2, 7, 4, 35, 3, 4, 31);
        Edge.song(echoes, 3, 0, 1, 3, 1, 2, 1);
        Check.due("THE SEED", echoes.seed(0), 77);
        Check.due("what was kept", echoes.again(0), 5);
    }
}

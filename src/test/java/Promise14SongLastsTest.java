/** Promise 14, songLasts: behind how many YEARS a SONG is gone; 99: not by 99 YEARS. */
public final class Promise14SongLastsTest {
    public static void main(String[] args) {
        Edge.run(Promise14SongLastsTest.class);
    }

    private static void lasts(WellEchoes echoes, int... due) {
        for (int song = 0; song < due.length; song++) {
            Check.due("songLasts(" + song + ")", echoes.songLasts(song), due[song]);
        }
        Check.due("no more", echoes.songLasts(due.length), WellEchoes.UNKNOWN);
    }

    static void promise14UnknownOutsideTheRow() {
        for (Edge.State state : Edge.State.values()) {
            for (int song : Edge.outside(0, state.songs - 1)) {
                Edge.refused(state, "songLasts(" + song + ")", echoes -> echoes.songLasts(song), WellEchoes.UNKNOWN);
            }
        }
    }

    /** Alone, at every loudness: its last YEAR is that by which it is not louder than 0. */
    static void promise14Alone() {
        for (int stone = 0; stone <= 2; stone++) {
            for (int loud = 1; loud <= 9; loud++) {
                WellEchoes echoes = Check.land("LW1" + stone + "S00" + loud + "0");
                lasts(echoes, (loud + stone) / (stone + 1));
                echoes.lid(0);
                lasts(echoes, stone == 0 ? 99 : (loud + stone - 1) / stone);
            }
        }
    }

    static void promise14GoneByTheFirstYear() {
        lasts(Check.land("LW10S0010"), 1);
        lasts(Check.land("LW12S0030"), 1);
        lasts(Check.land("LW12S0040"), 2);
        lasts(Check.land("LW10S0020S0090"), 1, 8);
    }

    static void promise14NotBy99Years() {
        WellEchoes echoes = Check.land("LW10W11S0010S0190");
        lasts(echoes, 1, 5);
        echoes.lid(0);
        echoes.lid(1);
        lasts(echoes, 99, 9);
    }

    /** Worn by another until that is gone; then, under a LID, no more. */
    static void promise14WornByAnother() {
        WellEchoes echoes = Check.land("LW10S0050S1020");
        lasts(echoes, 4, 1);
        echoes.lid(0);
        lasts(echoes, 99, 2);
        WellEchoes even = Check.land("LW10S0090S1090");
        lasts(even, 5, 5);
        even.lid(0);
        lasts(even, 9, 9);
    }

    /** Those ahead of it that are gone first don't change which one it is. */
    static void promise14ThoseAheadAreGoneFirst() {
        lasts(Check.land("LW10W12S0010S1191S2021S3193S4092S5113"), 1, 3, 2, 3, 9, 1);
        lasts(Check.land("LW10S0010S1021S2032S3043"), 1, 2, 3, 4);
        lasts(Check.land("LW10S0043S1032S2021S3010"), 4, 3, 2, 1);
    }

    static void promise14TheLastOfEight() {
        WellEchoes full = Edge.State.FULL.make();
        lasts(full, 3, 1, 1, 99, 2, 1, 3, 1);
    }

    static void promise14OnlyAsks() {
        for (int song = 0; song < 8; song++) {
            int asked = song;
            Edge.onlyAsks(Edge.State.FULL, "songLasts(" + song + ")", echoes -> echoes.songLasts(asked));
        }
        Edge.onlyAsks(Edge.State.LIDDED, "songLasts(0)", echoes -> echoes.songLasts(0));
    }
}

/** Promise 11, lid: a WELL gets a LID, or loses it. */
public final class Promise11LidTest {
    public static void main(String[] args) {
        Edge.run(Promise11LidTest.class);
    }

    static void promise11UnknownOutsideTheWells() {
        for (Edge.State state : Edge.State.values()) {
            for (int well : Edge.outside(0, state.wells - 1)) {
                Edge.refused(state, "lid(" + well + ")", echoes -> echoes.lid(well), WellEchoes.UNKNOWN);
            }
        }
    }

    static void promise11TheLastWell() {
        for (int wells = 1; wells <= 4; wells++) {
            WellEchoes echoes = Check.land("L" + "W10".repeat(wells));
            Check.due("behind the last", echoes.lid(wells), WellEchoes.UNKNOWN);
            Check.due("the last", echoes.lid(wells - 1), 1);
            Check.due("LIDS", echoes.about(4), 1 << wells - 1);
            Check.due("ahead of the first", echoes.lid(-1), WellEchoes.UNKNOWN);
            Check.due("ACTS", echoes.about(7), 1);
        }
    }

    static void promise11OnAndOff() {
        WellEchoes echoes = Check.land("LW10W10W10W10");
        int lids = 0;
        for (int well : new int[] {0, 3, 1, 3, 2, 0, 0, 3, 1, 2, 3, 0}) {
            lids ^= 1 << well;
            Check.due("lid", echoes.lid(well), lids >> well & 1);
            Check.due("LIDS", echoes.about(4), lids);
            for (int other = 0; other < 4; other++) {
                Check.due("LID of " + other, echoes.well(other, 2), lids >> other & 1);
            }
        }
    }

    static void promise11EveryWellHasOne() {
        WellEchoes echoes = Check.land("LW10W10W10W10S0010S1110S2210S3310");
        for (int well = 0; well < 4; well++) {
            Check.due("lid", echoes.lid(well), 1);
        }
        Check.due("LIDS", echoes.about(4), 15);
        Check.due("year", echoes.year(), 0);
        for (int well = 0; well < 4; well++) {
            Check.due("lid", echoes.lid(well), 0);
        }
        Check.due("LIDS", echoes.about(4), 0);
        Check.due("year", echoes.year(), 4);
    }

    /** SONGS, THE YEAR, BREATH stay; it is an ACT. */
    static void promise11NothingElseIsChanged() {
        WellEchoes echoes = Edge.State.ORDINARY.make();
        Check.due("off", echoes.lid(2), 0);
        Edge.about(echoes, 3, 4, 1, 7, 0, 35, 3, 4, 31);
        Edge.loud(echoes, 6, 6, 6, 5);
        Check.due("THE SEED", echoes.seed(0), 77);
    }

    /** From one SONG to eight: other LIDS stay, and so do SONGS. */
    static void promise11HoweverManySongs() {
        WellEchoes echoes = Check.land("LW10W10W10W10S0090");
        for (int songs = 1; songs <= 8; songs++) {
            Check.due("on", echoes.lid(3), 1);
            Check.due("on", echoes.lid(2), 1);
            Check.due("LIDS", echoes.about(4), 12);
            Check.due("off", echoes.lid(3), 0);
            Check.due("LIDS", echoes.about(4), 4);
            Check.due("off", echoes.lid(2), 0);
            Check.due("SONGS", echoes.about(1), songs);
            echoes.sing(0, 1, songs, songs % 4);
        }
    }

    static void promise11AnActAlsoWhenTheRowIsFull() {
        WellEchoes echoes = Edge.State.FULL.make();
        Check.due("lid", echoes.lid(0), 1);
        Check.due("ACTS", echoes.about(7), 12);
        Check.due("undo", echoes.undo(), 11);
        Check.due("LIDS", echoes.about(4), 8);
    }
}

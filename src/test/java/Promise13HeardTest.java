/** Promise 13, heard: SONGS that are louder than the way to a LAMP at 0 .. 9, no lower than the DEPTH. */
public final class Promise13HeardTest {
    private static final int[] NO_LAMP = {-1, 10, 11, 32, 256, Integer.MIN_VALUE, Integer.MAX_VALUE};

    public static void main(String[] args) {
        Edge.run(Promise13HeardTest.class);
    }

    private static void refused(Edge.State state, int well, int x, boolean noon, int due) {
        Edge.refused(state, "heard(" + well + ", " + x + ", " + noon + ")", echoes -> echoes.heard(well, x, noon), due);
    }

    static void promise13UnknownOutsideTheWells() {
        for (Edge.State state : Edge.State.values()) {
            for (int well : Edge.outside(0, state.wells - 1)) {
                refused(state, well, 0, false, WellEchoes.UNKNOWN);
                refused(state, well, 9, true, WellEchoes.UNKNOWN);
            }
        }
    }

    static void promise13BadOutside0To9() {
        for (int x : NO_LAMP) {
            refused(Edge.State.ORDINARY, 0, x, false, WellEchoes.BAD);
            refused(Edge.State.FULL, 0, x, true, WellEchoes.BAD);
        }
    }

    /** Under a LID nothing is heard, but what is BAD is told. */
    static void promise13BadUnderALid() {
        for (int x : NO_LAMP) {
            refused(Edge.State.ORDINARY, 2, x, false, WellEchoes.BAD);
            refused(Edge.State.LIDDED, 1, x, true, WellEchoes.BAD);
        }
    }

    static void promise13UnknownAheadOfBad() {
        for (Edge.State state : Edge.State.values()) {
            refused(state, -1, -1, false, WellEchoes.UNKNOWN);
            refused(state, state.wells, 10, true, WellEchoes.UNKNOWN);
        }
    }

    /** Every DEPTH, AGE, loudness and LAMP: so at the way itself, at the DEPTH, and one beside each. */
    static void promise13LouderThanTheWay() {
        for (int depth = 1; depth <= 9; depth++) {
            for (int loud = 1; loud <= 9; loud++) {
                WellEchoes echoes = Check.land("LW" + depth + "0S00" + loud + "0");
                for (int age = 0; age <= 11; age++) {
                    int lies = age < depth ? age : depth;
                    for (int x = 0; x <= 9; x++) {
                        int lamp = x < depth ? x : depth;
                        int way = lies < lamp ? lamp - lies : lies - lamp;
                        Check.due("DEPTH " + depth + ", loud " + loud + ", AGE " + age + ", x " + x,
                                echoes.heard(0, x, false), loud > way ? 1 : 0);
                    }
                    Edge.growOlder(echoes, 1);
                }
            }
        }
    }

    static void promise13AsLoudAsTheWayIsNotHeard() {
        WellEchoes echoes = Check.land("LW90S0030");
        Check.due("way 2", echoes.heard(0, 2, false), 1);
        Check.due("way 3", echoes.heard(0, 3, false), 0);
        Edge.growOlder(echoes, 5);
        Check.due("way 3 above it", echoes.heard(0, 2, false), 0);
        Check.due("way 2 above it", echoes.heard(0, 3, false), 1);
        Check.due("way 2 below it", echoes.heard(0, 7, false), 1);
        Check.due("way 3 below it", echoes.heard(0, 8, false), 0);
    }

    static void promise13TheLampLiesNoLowerThanTheDepth() {
        WellEchoes echoes = Check.land("LW30W90S0040S1140");
        Check.due("x at the DEPTH", echoes.heard(0, 3, false), 1);
        Check.due("x below the DEPTH", echoes.heard(0, 4, false), 1);
        Check.due("x at 9", echoes.heard(0, 9, false), 1);
        Check.due("deeper WELL, way 3", echoes.heard(1, 3, false), 2);
        Check.due("deeper WELL, way 4", echoes.heard(1, 4, false), 0);
    }

    static void promise13ASongLiesAtMostAtTheDepth() {
        WellEchoes echoes = Check.land("LW30S0020");
        int[] heardAt0 = {1, 1, 0, 0, 0, 0};
        int[] heardAt3 = {0, 0, 1, 1, 1, 1};
        for (int age = 0; age < 6; age++) {
            Check.due("AGE " + age + " at 0", echoes.heard(0, 0, false), heardAt0[age]);
            Check.due("AGE " + age + " at 3", echoes.heard(0, 3, false), heardAt3[age]);
            Edge.growOlder(echoes, 1);
        }
    }

    static void promise13AtNoonNoneOfPitch2And3() {
        for (int pitch = 0; pitch <= 3; pitch++) {
            WellEchoes echoes = Check.land("LW90S009" + pitch);
            Check.due("PITCH " + pitch, echoes.heard(0, 0, false), 1);
            Check.due("PITCH " + pitch + " at noon", echoes.heard(0, 0, true), pitch < 2 ? 1 : 0);
        }
        WellEchoes all = Check.land("LW90S0093S0092S0091S0090");
        Check.due("all", all.heard(0, 8, false), 15);
        Check.due("at noon", all.heard(0, 8, true), 12);
    }

    static void promise13NothingUnderALid() {
        WellEchoes echoes = Check.land("LW90W90S0090S1190");
        echoes.lid(0);
        for (int x = 0; x <= 9; x++) {
            Check.due("under the LID", echoes.heard(0, x, false), 0);
            Check.due("under the LID at noon", echoes.heard(0, x, true), 0);
        }
        Check.due("in the other WELL", echoes.heard(1, 0, false), 2);
        echoes.lid(0);
        Check.due("taken off", echoes.heard(0, 0, false), 1);
    }

    static void promise13OfThatWellAlone() {
        WellEchoes echoes = Check.land("LW90W90W90W90S0390S0090S0290S0190S0393");
        int[] due = {2, 8, 4, 17};
        for (int well = 0; well < 4; well++) {
            Check.due("WELL " + well, echoes.heard(well, 0, false), due[well]);
        }
    }

    static void promise13BitsOfEightSongs() {
        WellEchoes full = Edge.State.FULL.make();
        Check.due("WELL 0", full.heard(0, 0, false), 17);
        Check.due("WELL 1", full.heard(1, 2, false), 98);
        Check.due("WELL 1 at noon", full.heard(1, 2, true), 34);
        Check.due("WELL 2", full.heard(2, 2, false), 132);
        Check.due("WELL 2 at noon", full.heard(2, 2, true), 128);
        Check.due("WELL 3 under a LID", full.heard(3, 2, false), 0);
    }

    static void promise13NoSongs() {
        WellEchoes echoes = Check.land("LW10W92");
        for (int x = 0; x <= 9; x++) {
            Check.due("none", echoes.heard(0, x, false), 0);
            Check.due("none at noon", echoes.heard(1, x, true), 0);
        }
    }

    static void promise13OnlyAsks() {
        for (int x = 0; x <= 9; x += 9) {
            int asked = x;
            Edge.onlyAsks(Edge.State.ORDINARY, "heard(1, " + x + ")", echoes -> echoes.heard(1, asked, false));
            Edge.onlyAsks(Edge.State.FULL, "heard(3, " + x + ")", echoes -> echoes.heard(3, asked, true));
        }
    }
}

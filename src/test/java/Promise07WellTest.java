/** Promise 7, well: of a WELL that there is, 0 .. 3. */
public final class Promise07WellTest {
    public static void main(String[] args) {
        Edge.run(Promise07WellTest.class);
    }

    private static void well(WellEchoes echoes, int well, int... due) {
        for (int what = 0; what < due.length; what++) {
            Check.due("well(" + well + ", " + what + ")", echoes.well(well, what), due[what]);
        }
    }

    static void promise07UnknownOutsideTheWells() {
        for (Edge.State state : Edge.State.values()) {
            for (int well : Edge.outside(0, state.wells - 1)) {
                for (int what = 0; what <= 3; what += 3) {
                    int asked = what;
                    Edge.refused(state, "well(" + well + ", " + what + ")", echoes -> echoes.well(well, asked),
                            WellEchoes.UNKNOWN);
                }
            }
        }
    }

    static void promise07BadOutside0To3() {
        for (Edge.State state : Edge.State.values()) {
            for (int well = 0; well < state.wells; well++) {
                for (int what : Edge.outside(0, 3)) {
                    int asked = well;
                    Edge.refused(state, "well(" + well + ", " + what + ")", echoes -> echoes.well(asked, what),
                            WellEchoes.BAD);
                }
            }
        }
    }

    static void promise07UnknownAheadOfBad() {
        for (Edge.State state : Edge.State.values()) {
            for (int well : Edge.outside(0, state.wells - 1)) {
                for (int what : new int[] {-1, 4, Integer.MIN_VALUE, Integer.MAX_VALUE}) {
                    Edge.refused(state, "well(" + well + ", " + what + ")", echoes -> echoes.well(well, what),
                            WellEchoes.UNKNOWN);
                }
            }
        }
    }

    /** As many WELLS as were told are known, and no more. */
    static void promise07TheLastWell() {
        String text = "L";
        for (int wells = 1; wells <= 4; wells++) {
            text += "W" + wells + wells % 3;
            WellEchoes echoes = Check.land(text);
            well(echoes, wells - 1, wells, wells % 3, 0, 0);
            Check.due("none behind it", echoes.well(wells, 0), WellEchoes.UNKNOWN);
            Check.due("none ahead of all", echoes.well(-1, 0), WellEchoes.UNKNOWN);
        }
    }

    static void promise07InEveryState() {
        WellEchoes ordinary = Edge.State.ORDINARY.make();
        well(ordinary, 0, 3, 2, 0, 1);
        well(ordinary, 1, 5, 1, 0, 14);
        well(ordinary, 2, 1, 0, 1, 0);
        WellEchoes lidded = Edge.State.LIDDED.make();
        well(lidded, 0, 9, 0, 1, 5);
        well(lidded, 1, 9, 1, 1, 2);
        WellEchoes full = Edge.State.FULL.make();
        well(full, 0, 1, 0, 0, 17);
        well(full, 1, 9, 1, 0, 98);
        well(full, 2, 5, 2, 0, 132);
        well(full, 3, 9, 0, 1, 8);
    }

    static void promise07LeastAndGreatestDepthAndStone() {
        WellEchoes echoes = Check.land("LW10W92W12W90");
        well(echoes, 0, 1, 0, 0, 0);
        well(echoes, 1, 9, 2, 0, 0);
        well(echoes, 2, 1, 2, 0, 0);
        well(echoes, 3, 9, 0, 0, 0);
    }

    static void promise07ALidIsPutOnAndTakenOff() {
        WellEchoes echoes = Check.land("LW10W10");
        well(echoes, 1, 1, 0, 0, 0);
        echoes.lid(1);
        well(echoes, 0, 1, 0, 0, 0);
        well(echoes, 1, 1, 0, 1, 0);
        echoes.lid(1);
        well(echoes, 1, 1, 0, 0, 0);
    }

    /** Bits 0 .. 7, of SONGS as they lie in the row. */
    static void promise07SongsAreBits() {
        WellEchoes echoes = Check.land("LW90W90S0090S0091S0092S0093S0010S0011");
        well(echoes, 0, 9, 0, 0, 63);
        well(echoes, 1, 9, 0, 0, 0);
        echoes.sing(0, 1, 9, 0);
        well(echoes, 1, 9, 0, 0, 64);
        echoes.sing(6, 0, 9, 2);
        well(echoes, 0, 9, 0, 0, 191);
        Check.due("two are gone", echoes.year(), 2);
        well(echoes, 0, 9, 0, 0, 47);
        well(echoes, 1, 9, 0, 0, 16);
    }

    static void promise07OnlyAsks() {
        for (int well = 0; well < 4; well++) {
            for (int what = 0; what <= 3; what++) {
                int asked = 4 * well + what;
                Edge.onlyAsks(Edge.State.FULL, "well(" + well + ", " + what + ")",
                        echoes -> echoes.well(asked / 4, asked % 4));
            }
        }
    }
}

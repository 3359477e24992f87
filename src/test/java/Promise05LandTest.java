/** Promise 5, land: THE TEXT is THE LAND. */
public final class Promise05LandTest {
    private static final String GREATEST = "LW10W91W52W30S0010S1191S2292S3393S4050S5151";

    public static void main(String[] args) {
        Edge.run(Promise05LandTest.class);
    }

    private static void land(String text, int due) {
        Check.due("land of " + text, Check.written(text).land(), due);
    }

    static void promise05LateWithAFault() {
        Edge.State[] states = {Edge.State.NEW, Edge.State.FAULTY, Edge.State.ORDINARY, Edge.State.FULL};
        for (Edge.State state : states) {
            Edge.refused(state, "land()", WellEchoes::land, WellEchoes.LATE);
        }
    }

    /** Every text that is only not at its end is refused, too. */
    static void promise05LateOnlyNotAtItsEnd() {
        for (int length = 1; length < GREATEST.length(); length++) {
            boolean isLand = length <= 13 ? length % 3 == 1 : (length - 13) % 5 == 0;
            WellEchoes echoes = Check.written(GREATEST.substring(0, length));
            int due = length <= 13 ? length / 3 * 10 : 40 + (length - 13) / 5;
            Check.due("land of " + length + " bytes", echoes.land(), isLand ? due : WellEchoes.LATE);
        }
    }

    static void promise05LateOneByteTooMany() {
        land(GREATEST + "W", WellEchoes.LATE);
        land("LL", WellEchoes.LATE);
    }

    static void promise05TheLeastLand() {
        land("L", 0);
        WellEchoes echoes = Check.written("L");
        echoes.land();
        Edge.about(echoes, 0, 0, 0, 0, 0, 0, 0, 0, 1);
    }

    static void promise05TheGreatestLand() {
        land(GREATEST, 46);
        land(GREATEST.substring(0, 13), 40);
        land("LW10S0010S0010S0010S0010S0010S0010", 16);
    }

    static void promise05PartsAreNumberedAsTheyAreTold() {
        WellEchoes echoes = Check.land("LW12S5091W91S0110S1093W50W11S3392");
        int[][] wells = {{1, 2, 0, 5}, {9, 1, 0, 2}, {5, 0, 0, 0}, {1, 1, 0, 8}};
        for (int well = 0; well < wells.length; well++) {
            for (int what = 0; what < 4; what++) {
                Check.due("well(" + well + ", " + what + ")", echoes.well(well, what), wells[well][what]);
            }
        }
        Edge.song(echoes, 0, 5, 0, 9, 1, 0, 0);
        Edge.song(echoes, 1, 0, 1, 1, 0, 0, 0);
        Edge.song(echoes, 2, 1, 0, 9, 3, 0, 0);
        Edge.song(echoes, 3, 3, 3, 9, 2, 0, 0);
    }

    static void promise05EveryDigitIsItself() {
        for (int digit = 1; digit <= 9; digit++) {
            WellEchoes echoes = Check.land("LW" + digit + "0S00" + digit + "0");
            Check.due("DEPTH", echoes.well(0, 0), digit);
            Check.due("how loud", echoes.song(0, 2), digit);
        }
        for (int law = 0; law <= 5; law++) {
            WellEchoes echoes = Check.land("LW1" + law % 3 + "S" + law + "01" + law % 4);
            Check.due("STONE", echoes.well(0, 1), law % 3);
            Check.due("LAW", echoes.song(0, 0), law);
            Check.due("PITCH", echoes.song(0, 3), law % 4);
        }
    }

    /** THE TEXT itself stays: it can be landed again. */
    static void promise05TheTextStays() {
        WellEchoes echoes = Check.land(GREATEST);
        Check.due("bytes", echoes.about(8), 43);
        Check.due("fault", echoes.fault(), WellEchoes.NONE);
        Check.due("land", echoes.land(), 46);
        Check.due("wipe", echoes.wipe(), 43);
    }

    /** What WELLS and SONGS there were more of is gone. */
    static void promise05LessThanThereWas() {
        WellEchoes echoes = Edge.State.FULL.make();
        Check.rewrite(echoes, "LW22S3023");
        Check.due("land", echoes.land(), 11);
        Edge.about(echoes, 1, 1, 0, 0, 0, 8, 8, 0, 9);
        Edge.song(echoes, 0, 3, 0, 2, 3, 0, 0);
        Check.due("one SONG", echoes.song(1, 0), WellEchoes.UNKNOWN);
        Check.due("one WELL", echoes.well(1, 0), WellEchoes.UNKNOWN);
        Check.due("DEPTH", echoes.well(0, 0), 2);
    }

    static void promise05AllAnewIsAsInANewObject() {
        for (Edge.State state : Edge.State.values()) {
            Edge.same(state + " made anew", () -> {
                WellEchoes echoes = state.make();
                echoes.seed(44);
                Check.rewrite(echoes, GREATEST);
                Check.due("land", echoes.land(), 46);
                return echoes;
            }, Every.answersOf(() -> {
                WellEchoes echoes = Check.land(GREATEST);
                echoes.seed(44);
                return echoes;
            }));
        }
    }

    static void promise05NothingAnew() {
        for (Edge.State state : Edge.State.values()) {
            WellEchoes echoes = state.make();
            Check.rewrite(echoes, "L");
            Check.due("land", echoes.land(), 0);
            Edge.about(echoes, 0, 0, 0, 0, 0, 0, 0, 0, 1);
            Check.due("no WELL", echoes.well(0, 0), WellEchoes.UNKNOWN);
            Check.due("no SONG", echoes.song(0, 0), WellEchoes.UNKNOWN);
        }
    }

    static void promise05NoActsLeft() {
        WellEchoes echoes = Edge.State.FULL.make();
        Check.due("ACTS", echoes.about(7), 12);
        Check.rewrite(echoes, GREATEST);
        echoes.land();
        Check.due("ACTS", echoes.about(7), 0);
        Check.due("undo", echoes.undo(), WellEchoes.LATE);
        echoes.year();
        Check.due("undo of the one", echoes.undo(), 0);
        Check.due("undo", echoes.undo(), WellEchoes.LATE);
    }

    static void promise05WhatWasKeptIsGone() {
        for (int slot = 0; slot <= 1; slot++) {
            WellEchoes echoes = Check.land(GREATEST);
            echoes.keep(slot);
            echoes.land();
            Check.due("again(" + slot + ")", echoes.again(slot), WellEchoes.LATE);
            Check.due("again(" + (1 - slot) + ")", echoes.again(1 - slot), WellEchoes.LATE);
        }
    }

    static void promise05TheSeedStays() {
        WellEchoes echoes = Check.written("L");
        echoes.seed(Long.MIN_VALUE);
        echoes.land();
        Check.due("THE SEED", echoes.seed(0), Long.MIN_VALUE);
    }

    /** A refused one takes nothing away, though ACTS, SLOTS and LIDS would be gone by one that is not. */
    static void promise05RefusedTakesNothingAway() {
        WellEchoes echoes = Edge.State.FULL.make();
        Check.due("land", echoes.land(), WellEchoes.LATE);
        Check.due("ACTS", echoes.about(7), 12);
        Check.due("LIDS", echoes.about(4), 8);
        Check.due("again(0)", echoes.again(0), 6);
        Check.due("again(1)", echoes.again(1), 8);
    }
}

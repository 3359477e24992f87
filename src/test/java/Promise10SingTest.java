/** Promise 10, sing: SUNG ON into the WELL beside, with VOICE 1 .. 9 and PITCH 0 .. 3. */
public final class Promise10SingTest {
    private static final int[] SIDES = {-1, 2, 3, 32, 256, Integer.MIN_VALUE, Integer.MAX_VALUE};

    public static void main(String[] args) {
        Edge.run(Promise10SingTest.class);
    }

    private static void refused(Edge.State state, int song, int side, int voice, int pitch, int due) {
        String call = "sing(" + song + ", " + side + ", " + voice + ", " + pitch + ")";
        Edge.refused(state, call, echoes -> echoes.sing(song, side, voice, pitch), due);
    }

    static void promise10UnknownOutsideTheRow() {
        for (Edge.State state : Edge.State.values()) {
            for (int song : Edge.outside(0, state.songs - 1)) {
                refused(state, song, 0, 1, 0, WellEchoes.UNKNOWN);
                refused(state, song, 1, 9, 3, WellEchoes.UNKNOWN);
            }
        }
    }

    static void promise10UnknownAheadOfAllElse() {
        for (Edge.State state : Edge.State.values()) {
            refused(state, state.songs, 2, 1, 0, WellEchoes.UNKNOWN);
            refused(state, state.songs, 0, 0, 0, WellEchoes.UNKNOWN);
            refused(state, state.songs, 0, 1, 4, WellEchoes.UNKNOWN);
            refused(state, -1, -1, 10, -1, WellEchoes.UNKNOWN);
        }
    }

    static void promise10BadSideOutside0To1() {
        for (int side : SIDES) {
            refused(Edge.State.ORDINARY, 0, side, 5, 1, WellEchoes.BAD);
            refused(Edge.State.LIDDED, 2, side, 5, 1, WellEchoes.BAD);
            refused(Edge.State.FULL, 7, side, 5, 1, WellEchoes.BAD);
        }
    }

    static void promise10BadVoiceOutside1To9() {
        for (int voice : Edge.outside(1, 9)) {
            refused(Edge.State.ORDINARY, 0, 1, voice, 1, WellEchoes.BAD);
            refused(Edge.State.FULL, 0, 1, voice, 1, WellEchoes.BAD);
        }
    }

    static void promise10BadPitchOutside0To3() {
        for (int pitch : Edge.outside(0, 3)) {
            refused(Edge.State.ORDINARY, 0, 1, 5, pitch, WellEchoes.BAD);
            refused(Edge.State.FULL, 0, 1, 5, pitch, WellEchoes.BAD);
        }
    }

    /** No WELL is there, a LID is on: what is BAD is told all the same. */
    static void promise10BadAheadOfLateAndFull() {
        refused(Edge.State.ORDINARY, 0, 0, 0, 0, WellEchoes.BAD);
        refused(Edge.State.ORDINARY, 0, 0, 10, 0, WellEchoes.BAD);
        refused(Edge.State.ORDINARY, 0, 0, 1, 4, WellEchoes.BAD);
        refused(Edge.State.ORDINARY, 1, 1, 1, -1, WellEchoes.BAD);
        refused(Edge.State.LIDDED, 0, 1, 0, 0, WellEchoes.BAD);
        refused(Edge.State.LIDDED, 0, -1, 9, 0, WellEchoes.BAD);
        refused(Edge.State.FULL, 0, 0, 10, 0, WellEchoes.BAD);
        refused(Edge.State.FULL, 3, 0, 1, 4, WellEchoes.BAD);
        refused(Edge.State.FULL, 0, 2, 0, 4, WellEchoes.BAD);
    }

    static void promise10LateWithoutAWellBeside() {
        refused(Edge.State.ORDINARY, 0, 0, 5, 0, WellEchoes.LATE);
        WellEchoes one = Check.land("LW10S0090");
        Check.due("one WELL, lesser", one.sing(0, 0, 5, 0), WellEchoes.LATE);
        Check.due("one WELL, greater", one.sing(0, 1, 5, 0), WellEchoes.LATE);
        for (int wells = 2; wells <= 4; wells++) {
            String text = "L" + "W10".repeat(wells) + "S0090S1" + (wells - 1) + "90";
            WellEchoes echoes = Check.land(text);
            Check.due("ahead of the first", echoes.sing(0, 0, 5, 0), WellEchoes.LATE);
            Check.due("behind the last", echoes.sing(1, 1, 5, 0), WellEchoes.LATE);
            Edge.about(echoes, wells, 2, 0, 0, 0, 3, 3, 0);
            Check.due("out of the first", echoes.sing(0, 1, 5, 0), 2);
            Check.due("out of the last", echoes.sing(1, 0, 5, 0), 3);
            Check.due("into the second", echoes.song(2, 1), 1);
            Check.due("into the last but one", echoes.song(3, 1), wells - 2);
        }
    }

    static void promise10LateByALid() {
        refused(Edge.State.ORDINARY, 1, 1, 5, 0, WellEchoes.LATE);
        refused(Edge.State.ORDINARY, 3, 1, 5, 0, WellEchoes.LATE);
        for (int song = 0; song < 3; song++) {
            refused(Edge.State.LIDDED, song, 0, 5, 0, WellEchoes.LATE);
            refused(Edge.State.LIDDED, song, 1, 5, 0, WellEchoes.LATE);
        }
        for (int lid = 0; lid < 4; lid++) {
            WellEchoes echoes = Check.land("LW10W10W10W10S0090S1190S2290S3390");
            echoes.lid(lid);
            for (int song = 0; song < 4; song++) {
                for (int side = 0; side <= 1; side++) {
                    int beside = song - 1 + 2 * side;
                    boolean isOpen = beside >= 0 && beside < 4 && beside != lid && song != lid;
                    Check.due("LID " + lid + ", SONG " + song + ", side " + side, echoes.sing(song, side, 1, 1),
                            isOpen ? 4 : WellEchoes.LATE);
                    if (isOpen) {
                        echoes.undo();
                    }
                }
            }
        }
    }

    static void promise10AnywhereElseALidIsNothing() {
        WellEchoes echoes = Check.land("LW10W10W10W10S1190");
        echoes.lid(2);
        echoes.lid(3);
        Check.due("sing", echoes.sing(0, 0, 5, 0), 1);
        echoes.lid(2);
        Check.due("taken off", echoes.sing(0, 1, 5, 0), 2);
    }

    static void promise10FullAt8() {
        refused(Edge.State.FULL, 0, 1, 1, 0, WellEchoes.FULL);
        refused(Edge.State.FULL, 1, 0, 9, 3, WellEchoes.FULL);
        refused(Edge.State.FULL, 7, 0, 5, 2, WellEchoes.FULL);
    }

    static void promise10LateAheadOfFull() {
        refused(Edge.State.FULL, 0, 0, 5, 0, WellEchoes.LATE);
        refused(Edge.State.FULL, 2, 1, 5, 0, WellEchoes.LATE);
        refused(Edge.State.FULL, 3, 0, 5, 0, WellEchoes.LATE);
        refused(Edge.State.FULL, 3, 1, 5, 0, WellEchoes.LATE);
    }

    static void promise10TheEighthIsTheLast() {
        WellEchoes echoes = Check.land("LW10W10S0010");
        for (int song = 1; song <= 7; song++) {
            Check.due("sing", echoes.sing(0, 1, song, song % 4), song);
            Check.due("SONGS", echoes.about(1), song + 1);
        }
        Check.due("the ninth", echoes.sing(0, 1, 1, 0), WellEchoes.FULL);
        echoes.undo();
        Check.due("room again", echoes.sing(0, 1, 9, 0), 7);
        Check.due("full again", echoes.sing(0, 1, 9, 0), WellEchoes.FULL);
        Check.due("the faintest are gone", echoes.year(), 3);
        Check.due("room behind a YEAR", echoes.sing(0, 0, 2, 0), 5);
    }

    static void promise10LeastAndGreatestNumbers() {
        for (int voice = 1; voice <= 9; voice++) {
            for (int pitch = 0; pitch <= 3; pitch++) {
                WellEchoes echoes = Check.land("LW10W10W10S0090S4153");
                Check.due("first SONG", echoes.sing(0, 1, voice, pitch), 2);
                Check.due("last SONG", echoes.sing(1, 0, voice, pitch), 3);
                Check.due("last SONG", echoes.sing(1, 1, voice, pitch), 4);
                Edge.song(echoes, 2, 0, 1, voice, pitch, 0, 0);
                Edge.song(echoes, 3, 4, 0, voice, pitch, 0, 0);
                Edge.song(echoes, 4, 4, 2, voice, pitch, 0, 0);
                Check.due("BREATH", echoes.about(3), 3 * voice);
            }
        }
    }

    /** The new one lies behind the others, of AGE 0; the old one stays as it is. */
    static void promise10TheOldOneStays() {
        WellEchoes echoes = Check.land("LW12W10S5093S1110");
        echoes.year();
        Check.due("sing", echoes.sing(0, 1, 4, 1), 1);
        Edge.song(echoes, 0, 5, 0, 6, 3, 1, 0);
        Edge.song(echoes, 1, 5, 1, 4, 1, 0, 1);
        Check.due("the new one sung on", echoes.sing(1, 0, 8, 2), 2);
        Edge.song(echoes, 1, 5, 1, 4, 1, 0, 1);
        Edge.song(echoes, 2, 5, 0, 8, 2, 0, 1);
        Edge.about(echoes, 2, 3, 1, 12, 0, 34, 32, 3);
    }

    static void promise10SlipsByTheOwnWellAlone() {
        for (int own = 0; own <= 2; own++) {
            for (int other = 0; other <= 2; other++) {
                WellEchoes echoes = Check.land("LW1" + own + "W1" + other + "S0090");
                echoes.sing(0, 1, 9, 1);
                int slips = own == 2 ? 1 : 0;
                Check.due("SLIPS", echoes.song(1, 5), slips);
                echoes.sing(1, 0, 9, 2);
                Check.due("SLIPS", echoes.song(2, 5), slips + (other == 2 ? 1 : 0));
                Check.due("the old one's", echoes.song(0, 5), 0);
            }
        }
    }

    /** One copy of the other, so that each has a slip more: 8, 9, and 9 from then on. */
    static void promise10SlipsAre9AtMost() {
        WellEchoes echoes = Check.land("LW12W12W10S0090");
        int song = 0;
        for (int slips = 1; slips <= 10; slips++) {
            if (echoes.about(1) == 8) {
                Check.due("the faint ones are gone", echoes.year(), 6);
                song = 1;
            }
            int side = echoes.song(song, 1) == 0 ? 1 : 0;
            song = echoes.sing(song, side, slips % 7 == 0 ? 9 : 1, slips % 4);
            Check.due("SLIPS", echoes.song(song, 5), Math.min(slips, 9));
        }
        if (echoes.song(song, 1) == 0) {
            song = echoes.sing(song, 1, 1, 0);
        }
        song = echoes.sing(song, 1, 1, 0);
        song = echoes.sing(song, 0, 1, 0);
        Check.due("9 out of a smooth one", echoes.song(song, 5), 9);
    }

    static void promise10BreathIsTheVoice() {
        WellEchoes echoes = Check.land("LW10W10S0090");
        int breath = 0;
        for (int voice = 1; voice <= 7; voice++) {
            echoes.sing(0, 1, voice, 0);
            breath += voice;
            Check.due("BREATH", echoes.about(3), breath);
        }
        echoes.sing(0, 1, 9, 0);
        Check.due("FULL spends none", echoes.about(3), 28);
        echoes.year();
        echoes.lid(0);
        Check.due("spent by SONGS alone", echoes.about(3), 28);
    }

    static void promise10AnActAlsoWhenTheRowIsFull() {
        WellEchoes echoes = Check.land("LW10W10S0090");
        for (int act = 0; act < 12; act++) {
            echoes.lid(0);
        }
        Check.due("sing", echoes.sing(0, 1, 5, 0), 1);
        Check.due("ACTS", echoes.about(7), 12);
        Check.due("undo", echoes.undo(), 11);
        Check.due("one SONG", echoes.about(1), 1);
    }
}

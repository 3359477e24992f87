/** Promise 8, song: of a SONG that there is, 0 .. 5. */
public final class Promise08SongTest {
    public static void main(String[] args) {
        Edge.run(Promise08SongTest.class);
    }

    static void promise08UnknownOutsideTheRow() {
        for (Edge.State state : Edge.State.values()) {
            for (int song : Edge.outside(0, state.songs - 1)) {
                for (int what = 0; what <= 5; what += 5) {
                    int asked = what;
                    Edge.refused(state, "song(" + song + ", " + what + ")", echoes -> echoes.song(song, asked),
                            WellEchoes.UNKNOWN);
                }
            }
        }
    }

    static void promise08BadOutside0To5() {
        for (Edge.State state : Edge.State.values()) {
            for (int song = 0; song < state.songs; song++) {
                for (int what : Edge.outside(0, 5)) {
                    int asked = song;
                    Edge.refused(state, "song(" + song + ", " + what + ")", echoes -> echoes.song(asked, what),
                            WellEchoes.BAD);
                }
            }
        }
    }

    static void promise08UnknownAheadOfBad() {
        for (Edge.State state : Edge.State.values()) {
            for (int song : Edge.outside(0, state.songs - 1)) {
                for (int what : new int[] {-1, 6, Integer.MIN_VALUE, Integer.MAX_VALUE}) {
                    Edge.refused(state, "song(" + song + ", " + what + ")", echoes -> echoes.song(song, what),
                            WellEchoes.UNKNOWN);
                }
            }
        }
    }

    static void promise08InEveryState() {
        WellEchoes ordinary = Edge.State.ORDINARY.make();
        Edge.song(ordinary, 0, 0, 0, 6, 3, 1, 0);
        Edge.song(ordinary, 1, 1, 1, 6, 0, 1, 0);
        Edge.song(ordinary, 2, 0, 1, 6, 2, 1, 0);
        Edge.song(ordinary, 3, 0, 1, 5, 1, 1, 1);
        WellEchoes lidded = Edge.State.LIDDED.make();
        Edge.song(lidded, 0, 0, 0, 8, 0, 1, 0);
        Edge.song(lidded, 1, 1, 1, 8, 1, 1, 0);
        Edge.song(lidded, 2, 2, 0, 4, 0, 1, 0);
        WellEchoes full = Edge.State.FULL.make();
        Edge.song(full, 0, 0, 0, 5, 0, 2, 0);
        Edge.song(full, 1, 1, 1, 3, 1, 2, 0);
        Edge.song(full, 2, 2, 2, 3, 2, 2, 0);
        Edge.song(full, 3, 3, 3, 8, 3, 2, 0);
        Edge.song(full, 4, 4, 0, 4, 0, 2, 0);
        Edge.song(full, 5, 5, 1, 2, 1, 2, 0);
        Edge.song(full, 6, 0, 1, 5, 2, 2, 0);
        Edge.song(full, 7, 5, 2, 3, 0, 2, 0);
    }

    static void promise08LeastAndGreatestNumbers() {
        WellEchoes echoes = Check.land("LW10W10W10W10S0010S5393");
        Edge.song(echoes, 0, 0, 0, 1, 0, 0, 0);
        Edge.song(echoes, 1, 5, 3, 9, 3, 0, 0);
    }

    /** Of one SONG, of six, of eight the last is known, the one behind it is not. */
    static void promise08TheLastSong() {
        String text = "LW10W10";
        for (int songs = 1; songs <= 6; songs++) {
            text += "S" + (songs - 1) + "090";
            WellEchoes echoes = Check.land(text);
            Check.due("LAW of the last", echoes.song(songs - 1, 0), songs - 1);
            Check.due("none behind it", echoes.song(songs, 0), WellEchoes.UNKNOWN);
        }
        WellEchoes echoes = Check.land(text);
        echoes.sing(5, 1, 3, 3);
        echoes.sing(4, 1, 2, 2);
        Edge.song(echoes, 6, 5, 1, 3, 3, 0, 0);
        Edge.song(echoes, 7, 4, 1, 2, 2, 0, 0);
        Check.due("none behind eight", echoes.song(8, 0), WellEchoes.UNKNOWN);
    }

    /** The number of one that is gone is the next one's, the last number is no one's. */
    static void promise08GoneOnesAreUnknown() {
        WellEchoes echoes = Check.land("LW10S0010S1051S2012");
        echoes.year();
        Edge.song(echoes, 0, 1, 0, 4, 1, 1, 0);
        Check.due("no second", echoes.song(1, 0), WellEchoes.UNKNOWN);
        Check.due("no third", echoes.song(2, 0), WellEchoes.UNKNOWN);
        echoes.undo();
        Edge.song(echoes, 2, 2, 0, 1, 2, 0, 0);
    }

    /** AGE goes on beyond the DEPTH, beyond 99 and 255. */
    static void promise08AgeHasNoEnd() {
        WellEchoes echoes = Check.land("LW10S0010");
        echoes.lid(0);
        for (int year = 0; year < 300; year++) {
            echoes.year();
        }
        Edge.song(echoes, 0, 0, 0, 1, 0, 300, 0);
    }

    static void promise08OnlyAsks() {
        for (int what = 0; what <= 5; what++) {
            int asked = what;
            Edge.onlyAsks(Edge.State.FULL, "song(7, " + what + ")", echoes -> echoes.song(7, asked));
        }
    }
}

/** Promise 4, fault: the place of the first byte by which THE TEXT can be no LAND. */
public final class Promise04FaultTest {
    private static final String FOUR_WELLS = "LW10W21W32W90";
    private static final String SIX_SONGS = "S0010S0091S1112S1193S2210S5393";

    public static void main(String[] args) {
        Edge.run(Promise04FaultTest.class);
    }

    /** Behind the text, of all 256 bytes those alone can stand that are told. */
    private static void canStand(String text, String letters) {
        WellEchoes echoes = new WellEchoes();
        for (int letter = 0; letter <= 255; letter++) {
            if (letter % 8 == 0) {
                echoes = Check.written(text);
            } else {
                Check.rewrite(echoes, text);
            }
            echoes.write(letter);
            boolean stands = letters.indexOf((char) letter) >= 0;
            int fault = echoes.fault();
            boolean isAtLast = fault == text.length();
            Check.that(text + " and byte " + letter + (stands ? " can" : " can't") + " stand: " + fault,
                    stands ? fault == WellEchoes.NONE || fault == text.length() + 1 : isAtLast);
        }
    }

    private static void fault(String text, int due) {
        Check.due("fault of " + text, Check.written(text).fault(), due);
    }

    static void promise04EmptyTextIsOnlyNotAtItsEnd() {
        fault("", 0);
        Edge.changesNothing(Edge.State.NEW, "fault()", WellEchoes::fault, 0);
    }

    static void promise04ALandBeginsWithL() {
        canStand("", "L");
        fault("L", WellEchoes.NONE);
        fault("l", 0);
        fault("W10", 0);
    }

    static void promise04PartsAreWellsAndSongs() {
        canStand("LW10", "WS");
        canStand("LW10S0010", "WS");
    }

    /** The WELL of a SONG is told ahead of it: none can be, when its S stands there. */
    static void promise04NoSongAheadOfAllWells() {
        canStand("L", "W");
        fault("LS", 1);
        fault("LS0010W10", 1);
    }

    static void promise04DepthIs1To9() {
        canStand("LW", "123456789");
        canStand("LW10W", "123456789");
        fault("LW0", 2);
        fault("LW1", 3);
        fault("LW9", 3);
        fault("LW:", 2);
        fault("LW00", 2);
    }

    static void promise04StoneIs0To2() {
        canStand("LW1", "012");
        canStand("LW9", "012");
        canStand(FOUR_WELLS.substring(0, 12), "012");
        fault("LW1/", 3);
        fault("LW10", WellEchoes.NONE);
        fault("LW92", WellEchoes.NONE);
        fault("LW93", 3);
    }

    static void promise04FourWellsAtMost() {
        canStand("LW10W21W32", "WS");
        canStand(FOUR_WELLS, "S");
        fault(FOUR_WELLS, WellEchoes.NONE);
        fault(FOUR_WELLS + "W", 13);
        fault(FOUR_WELLS + "W10", 13);
        fault(FOUR_WELLS + "S0010W10", 18);
    }

    static void promise04LawIs0To5() {
        canStand("LW10S", "012345");
        canStand(FOUR_WELLS + "S", "012345");
        fault("LW10S0", 6);
        fault("LW10S5", 6);
        fault("LW10S6", 5);
        fault("LW10S/", 5);
    }

    static void promise04WellOfASongIsToldAhead() {
        canStand("LW10S0", "0");
        canStand("LW10W10S0", "01");
        canStand("LW10W10W10S0", "012");
        canStand(FOUR_WELLS + "S5", "0123");
        canStand("LW10S0010W10S0", "01");
        fault("LW10S0110W10", 6);
        fault("LW10W10S0210W10", 9);
    }

    static void promise04LoudnessIs1To9() {
        canStand("LW10S00", "123456789");
        canStand(FOUR_WELLS + "S53", "123456789");
        fault("LW10S000", 7);
        fault("LW10S00:", 7);
    }

    static void promise04PitchIs0To3() {
        canStand("LW10S001", "0123");
        canStand(FOUR_WELLS + "S539", "0123");
        fault("LW10S0010", WellEchoes.NONE);
        fault("LW10S0093", WellEchoes.NONE);
        fault("LW10S0094", 8);
        fault("LW10S009/", 8);
    }

    static void promise04SixSongsAtMost() {
        String five = SIX_SONGS.substring(0, 25);
        canStand("LW10W10W10" + five.replace("S2210", "S2110"), "WS");
        canStand(FOUR_WELLS + five, "S");
        fault(FOUR_WELLS + SIX_SONGS, WellEchoes.NONE);
        fault(FOUR_WELLS + SIX_SONGS + "S", 43);
        fault(FOUR_WELLS + SIX_SONGS + "S0010", 43);
    }

    static void promise04WellsMayComeBehindSixSongs() {
        canStand("LW10S0010S0010S0010S0010S0010S0010", "W");
        canStand("LW10W10W10S0010S0010S0010S0010S0010S0010", "W");
    }

    static void promise04NothingBehindTheGreatestLand() {
        canStand(FOUR_WELLS + SIX_SONGS, "");
    }

    /** Each text that a LAND begins with, and that is none, has its FAULT at its length. */
    static void promise04ItsLengthIfOnlyNotAtItsEnd() {
        String land = "LW10S0010W92S5193";
        int[] ends = {1, 4, 9, 12, 17};
        for (int length = 0; length <= land.length(); length++) {
            boolean isLand = false;
            for (int end : ends) {
                isLand |= end == length;
            }
            fault(land.substring(0, length), isLand ? WellEchoes.NONE : length);
        }
    }

    static void promise04TheFirstFaultAlone() {
        fault("LxW10y", 1);
        fault("LW93W10", 3);
        fault("LW10S0010L", 9);
        fault("LL", 1);
        fault("LW10 W10", 4);
        fault("\u0000", 0);
        fault("L\u00ff", 1);
        fault("LW10S6\u00ff", 5);
    }

    static void promise04AFullTextHasItsFaultWithin() {
        StringBuilder text = new StringBuilder(FOUR_WELLS + SIX_SONGS);
        while (text.length() < 56) {
            text.append('W');
        }
        fault(text.toString(), 43);
        fault(text.toString().replace('L', 'l'), 0);
        fault("LW10" + "S".repeat(52), 5);
    }

    static void promise04OnlyAsks() {
        int[] due = {0, 5, WellEchoes.NONE, 30, WellEchoes.NONE, 43};
        for (Edge.State state : Edge.State.values()) {
            Edge.changesNothing(state, "fault()", WellEchoes::fault, due[state.ordinal()]);
        }
    }
}

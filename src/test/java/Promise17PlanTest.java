/** Promise 17, plan: for 1 .. 2 YEARS, and 3 YEARS more; SUNG ON with VOICE 6, or none. */
public final class Promise17PlanTest {
    public static void main(String[] args) {
        Edge.run(Promise17PlanTest.class);
    }

    private static void plan(WellEchoes echoes, int n, int laws, int first) {
        Check.due("plan(" + n + ", 0)", echoes.plan(n, 0), laws);
        Check.due("plan(" + n + ", 1)", echoes.plan(n, 1), first);
    }

    private static void plan(String text, int n, int laws, int first) {
        Check.begin("promise17 of " + text);
        plan(Check.land(text), n, laws, first);
    }

    private static void refused(Edge.State state, int n, int what) {
        Edge.refused(state, "plan(" + n + ", " + what + ")", echoes -> echoes.plan(n, what), WellEchoes.BAD);
    }

    static void promise17BadYearsOutside1To2() {
        for (Edge.State state : Edge.State.values()) {
            for (int n : Edge.outside(1, 2)) {
                refused(state, n, 0);
                refused(state, n, 1);
            }
        }
    }

    static void promise17BadWhatOutside0To1() {
        for (Edge.State state : Edge.State.values()) {
            for (int what : Edge.outside(0, 1)) {
                refused(state, 1, what);
                refused(state, 2, what);
            }
        }
    }

    static void promise17BothBad() {
        for (Edge.State state : Edge.State.values()) {
            refused(state, 0, -1);
            refused(state, 3, 2);
        }
    }

    static void promise17NothingThereYet() {
        Edge.State[] states = {Edge.State.NEW, Edge.State.FAULTY, Edge.State.EMPTY};
        for (Edge.State state : states) {
            plan(state.make(), 1, 0, 0);
            plan(state.make(), 2, 0, 0);
        }
        plan("LW10W21", 1, 0, 0);
        plan("LW10W21", 2, 0, 0);
        WellEchoes gone = Check.land("LW10W10S0010");
        gone.year();
        plan(gone, 1, 0, 0);
        plan(gone, 2, 0, 0);
    }

    /** Where nothing can be SUNG ON, a LAW is had if it lasts for more than n and 3 YEARS. */
    static void promise17NAnd3YearsInAll() {
        for (int loud = 1; loud <= 9; loud++) {
            plan("LW10S00" + loud + "0", 1, loud > 4 ? 1 : 0, 0);
            plan("LW10S00" + loud + "0", 2, loud > 5 ? 1 : 0, 0);
        }
    }

    /** 5 is what a copy wears in its 4 YEARS: a VOICE of 5 would be gone. */
    static void promise17VoiceIsNotLessThan6() {
        plan("LW10W10S0040S0120", 1, 1, 2);
    }

    /** 6 is what a copy wears: a VOICE of 7 would not be gone. */
    static void promise17VoiceIsNotMoreThan6() {
        plan("LW10W10S0040S1140", 1, 0, 0);
    }

    static void promise17ByItsOwnPitch() {
        plan("LW10W10S0043S1140", 1, 1, 2);
        plan("LW10W10S0040S1143", 1, 1, 2);
        plan("LW10W10S0042S1142", 1, 0, 0);
        plan("LW10W10S0041S1141", 1, 0, 0);
    }

    static void promise17NoneAheadOfAll() {
        plan("LW10W10S0050", 1, 1, 0);
        plan("LW10W10S0060", 2, 1, 0);
        plan("LW10W10S0020", 2, 1, 0);
        plan("LW12W12S0010", 1, 0, 0);
        plan("LW12W12S0010", 2, 0, 0);
    }

    static void promise17ThenBySongs() {
        plan("LW10W10S0040S0041", 1, 1, 2);
        plan("LW10W10S1050S0041", 1, 2, 4);
        plan("LW10W10S0010S0011", 2, 1, 2);
        plan("LW10W10S1060S0011", 2, 2, 4);
    }

    static void promise17ThenBySide() {
        plan("LW10W10W10S0140", 1, 1, 1);
        plan("LW12W10W10S0140", 1, 1, 2);
        plan("LW10W10W10S0110", 2, 1, 1);
        plan("LW12W10W10S0110", 2, 1, 2);
    }

    /** The first side of a later SONG is behind the second side of an earlier one. */
    static void promise17SongsAheadOfSides() {
        plan("LW10W10S0040S0140", 1, 0, 0);
        plan("LW10W10S0040S0141", 1, 1, 2);
        plan("LW10W10S0140S0041", 1, 1, 1);
    }

    static void promise17ALidClosesTheWay() {
        WellEchoes lid = Check.land("LW10W10W10S0140");
        lid.lid(0);
        plan(lid, 1, 1, 2);
        lid.lid(2);
        plan(lid, 1, 0, 0);
        plan(lid, 2, 0, 0);
        lid.lid(0);
        plan(lid, 1, 1, 1);
        WellEchoes own = Check.land("LW11W10S0040");
        plan(own, 1, 1, 2);
        own.lid(0);
        plan(own, 1, 0, 0);
        plan(own, 2, 0, 0);
    }

    /** What was SUNG ON ahead of the first YEAR can be SUNG ON ahead of the second one, from WELL to WELL. */
    static void promise17OnFromWellToWell() {
        plan("LW12W12W10S0040", 1, 0, 0);
        plan("LW12W12W10S0040", 2, 1, 2);
        plan("LW10W12W12S0240", 2, 1, 1);
        plan("LW12W12W12S0040", 2, 0, 0);
    }

    /** Eight: the first one is gone by the first YEAR, and the second one, moved up, is SUNG ON then. */
    static void promise17BySongsAsTheyLieThen() {
        WellEchoes echoes = Check.land("LW10W10S1010S0041S1190S2192S3193");
        echoes.sing(2, 0, 9, 0);
        echoes.sing(3, 0, 9, 2);
        echoes.sing(4, 0, 9, 3);
        Check.due("eight", echoes.about(1), 8);
        plan(echoes, 1, 3, 0);
        plan(echoes, 2, 4, 0);
        echoes.year();
        Check.due("moved up", echoes.song(0, 0), 0);
        plan(echoes, 1, 4, 2);
    }

    /** The seventh SONG is the last that can be SUNG ON: both of its numbers. */
    static void promise17TheLastSong() {
        WellEchoes greater = Check.land("LW12W10W10S0040S1191S2291S3292S4293S5193");
        greater.sing(0, 1, 4, 0);
        greater.lid(0);
        plan(greater, 1, 6, 14);
        WellEchoes lesser = Check.land("LW10W10W12S0240S1191S2091S3092S4093S5193");
        lesser.sing(0, 0, 4, 0);
        lesser.lid(2);
        plan(lesser, 1, 6, 13);
    }

    /** Eight, none to be SUNG ON; when one of them is gone by the first YEAR, in the second one. */
    static void promise17EightSongs() {
        WellEchoes echoes = Check.land("LW10W10S0040S1191S2192S3193S4091S5092");
        echoes.sing(1, 0, 1, 3);
        plan(echoes, 1, 6, 2);
        echoes.sing(1, 0, 9, 3);
        Check.due("eight", echoes.about(1), 8);
        plan(echoes, 1, 5, 0);
        plan(echoes, 2, 6, 0);
    }

    /** Seven: one can be SUNG ON, a second one only if one is gone by then. */
    static void promise17SevenSongs() {
        WellEchoes echoes = Check.land("LW10W10W10S0030S1031S2092S3093S4192S5193");
        plan(echoes, 2, 6, 2);
        echoes.sing(4, 1, 9, 0);
        Check.due("seven", echoes.about(1), 7);
        plan(echoes, 2, 5, 0);
        echoes.undo();
        echoes.sing(4, 1, 1, 0);
        plan(echoes, 2, 6, 2);
    }

    /** Two SUNG ON come first in the order, but one is enough. */
    static void promise17FewestAreSungOn() {
        plan("LW10W12W10W12S0010S0310", 2, 1, 3);
        plan("LW10W12W10S0010", 2, 1, 2);
    }

    /** More LAWS are better than fewer SUNG ON. */
    static void promise17MostLawsAheadOfFewest() {
        plan("LW10W10S0010S1121", 2, 2, 2);
        plan("LW10W10S0021S1110", 2, 2, 3);
    }

    /** LAWS that are gone already can't be had again. */
    static void promise17LawsThatAreGone() {
        WellEchoes echoes = Check.land("LW10W10S0090S1191S2110");
        echoes.year();
        plan(echoes, 1, 2, 0);
        plan(echoes, 2, 2, 0);
    }

    static void promise17AllSixLaws() {
        plan("LW10W10S0090S1091S2092S3190S4191S5192", 1, 6, 0);
        plan("LW10W10S0090S1091S2092S3190S4191S5192", 2, 6, 0);
    }

    static void promise17OnlyAsks() {
        for (Edge.State state : Edge.State.values()) {
            for (int n = 1; n <= 2; n++) {
                int years = n;
                Edge.onlyAsks(state, "plan(" + n + ", 0)", echoes -> echoes.plan(years, 0));
                Edge.onlyAsks(state, "plan(" + n + ", 1)", echoes -> echoes.plan(years, 1));
            }
        }
    }
}

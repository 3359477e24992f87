import java.util.function.Consumer;

/** Promise 12, undo: ACTS are a row, 12 at most; the last one can be undone. */
public final class Promise12UndoTest {
    public static void main(String[] args) {
        Edge.run(Promise12UndoTest.class);
    }

    static void promise12LateWithoutAnAct() {
        Edge.refused(Edge.State.NEW, "undo()", WellEchoes::undo, WellEchoes.LATE);
        Edge.refused(Edge.State.FAULTY, "undo()", WellEchoes::undo, WellEchoes.LATE);
        WellEchoes echoes = Edge.State.EMPTY.make();
        Check.due("the one", echoes.undo(), 0);
        Check.due("no more", echoes.undo(), WellEchoes.LATE);
        Check.due("no more", echoes.undo(), WellEchoes.LATE);
        Check.due("THE YEAR", echoes.about(2), 0);
    }

    static void promise12LateBehindLand() {
        WellEchoes echoes = Check.land("LW10S0090");
        echoes.year();
        echoes.land();
        Check.due("undo", echoes.undo(), WellEchoes.LATE);
        Edge.loud(echoes, 9);
    }

    static void promise12LateBehindAgain() {
        WellEchoes echoes = Edge.State.FULL.make();
        echoes.again(1);
        Check.due("undo", echoes.undo(), WellEchoes.LATE);
        Check.due("THE YEAR", echoes.about(2), 2);
    }

    private static void undone(Edge.State state, String act, Consumer<WellEchoes> done) {
        Edge.same(state + " behind " + act + " undone", () -> {
            WellEchoes echoes = state.make();
            int acts = echoes.about(7);
            done.accept(echoes);
            Check.due("ACTS behind " + act, echoes.about(7), acts + 1);
            Check.due("undo of " + act, echoes.undo(), acts);
            return echoes;
        }, Edge.answersOf(state));
    }

    /** All is as it was ahead of the ACT: SONGS that were gone, their places, LIDS, THE YEAR, BREATH. */
    static void promise12AllIsAsItWas() {
        for (Edge.State state : Edge.State.values()) {
            if (state != Edge.State.FULL) {
                undone(state, "year", WellEchoes::year);
            }
        }
        undone(Edge.State.ORDINARY, "lid on", echoes -> echoes.lid(0));
        undone(Edge.State.ORDINARY, "lid off", echoes -> echoes.lid(2));
        undone(Edge.State.LIDDED, "lid off", echoes -> echoes.lid(1));
        undone(Edge.State.ORDINARY, "sing", echoes -> echoes.sing(0, 1, 9, 3));
        undone(Edge.State.ORDINARY, "sing of the last", echoes -> echoes.sing(3, 0, 1, 0));
    }

    static void promise12GoneSongsComeAgainInTheirPlaces() {
        WellEchoes echoes = Check.land("LW10W12S0110S1091S2110S3192S4010S5083");
        echoes.year();
        Edge.loud(echoes, 8, 6, 7);
        Check.due("undo", echoes.undo(), 0);
        Edge.loud(echoes, 1, 9, 1, 9, 1, 8);
        Edge.song(echoes, 0, 0, 1, 1, 0, 0, 0);
        Edge.song(echoes, 5, 5, 0, 8, 3, 0, 0);
        Check.due("THE YEAR", echoes.about(2), 0);
    }

    private static void act(WellEchoes echoes, int act) {
        if (act % 3 == 0) {
            echoes.lid(act % 2);
        } else if (act % 3 == 1) {
            echoes.year();
        } else if (echoes.sing(0, 1, 9, act % 4) < 0) {
            echoes.lid(2);
        }
    }

    private static WellEchoes behind(int acts) {
        WellEchoes echoes = Check.land("LW90W91W52S0092S1193");
        for (int act = 0; act < acts; act++) {
            act(echoes, act);
        }
        return echoes;
    }

    /** Of so many ACTS the last 12 can be undone, one by one, and no more. */
    private static void undoneOf(int acts) {
        int most = Math.min(acts, 12);
        for (int undone = 0; undone <= most; undone++) {
            WellEchoes echoes = behind(acts);
            Check.due("ACTS of " + acts, echoes.about(7), most);
            for (int left = most - 1; left >= most - undone; left--) {
                Check.due("undo of " + acts, echoes.undo(), left);
                Check.due("ACTS", echoes.about(7), left);
            }
            if (undone == most) {
                Check.due("no more of " + acts, echoes.undo(), WellEchoes.LATE);
                Check.due("ACTS", echoes.about(7), 0);
            }
            Check.that(undone + " of " + acts + " undone",
                    withoutActs(echoes).equals(withoutActs(behind(acts - undone))));
        }
    }

    private static String withoutActs(WellEchoes echoes) {
        StringBuilder told = new StringBuilder();
        for (int what = 1; what <= 4; what++) {
            told.append(echoes.about(what)).append(' ');
        }
        for (int song = 0; song < echoes.about(1); song++) {
            for (int what = 0; what <= 5; what++) {
                told.append(echoes.song(song, what));
            }
            told.append(' ');
        }
        return told.toString();
    }

    static void promise12OfOneAct() {
        undoneOf(1);
    }

    static void promise12Of11Acts() {
        undoneOf(11);
    }

    static void promise12Of12Acts() {
        undoneOf(12);
    }

    static void promise12Of13ActsTheFirstIsForgotten() {
        undoneOf(13);
    }

    static void promise12Of14ActsTwoAreForgotten() {
        undoneOf(14);
    }

    /** When all 12 have been forgotten, and more. */
    static void promise12Of25Acts() {
        undoneOf(25);
    }

    static void promise12RoomAgainWhenOneIsUndone() {
        WellEchoes echoes = Check.land("LW10");
        for (int act = 0; act < 12; act++) {
            echoes.year();
        }
        echoes.undo();
        echoes.lid(0);
        Check.due("ACTS", echoes.about(7), 12);
        for (int left = 11; left >= 0; left--) {
            Check.due("undo", echoes.undo(), left);
        }
        Check.due("none was forgotten", echoes.about(2), 0);
        Check.due("no more", echoes.undo(), WellEchoes.LATE);
    }

    static void promise12WhatIsUndoneIsNotDoneAgain() {
        WellEchoes echoes = Check.land("LW10W10S0090");
        echoes.year();
        echoes.lid(0);
        echoes.undo();
        echoes.sing(0, 1, 5, 3);
        echoes.undo();
        echoes.undo();
        Edge.about(echoes, 2, 1, 0, 0, 0, 1, 1, 0);
        Edge.loud(echoes, 9);
        Check.due("no more", echoes.undo(), WellEchoes.LATE);
    }

    /** THE TEXT, THE SEED, what is kept are no ACTS. */
    static void promise12TextSeedAndSlotsStay() {
        WellEchoes echoes = Check.land("LW10S0090");
        echoes.year();
        echoes.write('x');
        echoes.seed(5);
        echoes.keep(0);
        Check.due("undo", echoes.undo(), 0);
        Edge.about(echoes, 1, 1, 0, 0, 0, 1, 1, 0, 10);
        Check.due("THE SEED", echoes.seed(0), 5);
        Check.due("again", echoes.again(0), 1);
        Edge.loud(echoes, 8);
    }

    /** What was refused is no ACT, and what only asks is none. */
    static void promise12RefusedIsNoAct() {
        WellEchoes echoes = Check.land("LW10S0090");
        echoes.year();
        echoes.sing(0, 1, 5, 0);
        echoes.sing(0, 1, 0, 0);
        echoes.sing(1, 1, 5, 0);
        echoes.lid(1);
        echoes.rains(3, 5);
        echoes.keep(0);
        Check.due("ACTS", echoes.about(7), 1);
        Check.due("undo", echoes.undo(), 0);
        Edge.loud(echoes, 9);
    }
}

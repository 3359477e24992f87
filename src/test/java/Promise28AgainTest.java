/** Promise 28, again: SONGS, LIDS, THE YEAR, BREATH are as they were kept; no ACTS. */
public final class Promise28AgainTest {
    public static void main(String[] args) {
        Edge.run(Promise28AgainTest.class);
    }

    static void promise28UnknownOutside0To1() {
        for (Edge.State state : Edge.State.values()) {
            for (int slot : Edge.outside(0, 1)) {
                Edge.refused(state, "again(" + slot + ")", echoes -> echoes.again(slot), WellEchoes.UNKNOWN);
            }
        }
    }

    static void promise28LateIfNoneWereKept() {
        Edge.State[] both = {Edge.State.NEW, Edge.State.FAULTY, Edge.State.LIDDED};
        for (Edge.State state : both) {
            Edge.refused(state, "again(0)", echoes -> echoes.again(0), WellEchoes.LATE);
            Edge.refused(state, "again(1)", echoes -> echoes.again(1), WellEchoes.LATE);
        }
        Edge.refused(Edge.State.EMPTY, "again(0)", echoes -> echoes.again(0), WellEchoes.LATE);
        Edge.refused(Edge.State.ORDINARY, "again(1)", echoes -> echoes.again(1), WellEchoes.LATE);
    }

    static void promise28LateBehindLand() {
        WellEchoes echoes = Check.land("LW10S0090");
        echoes.keep(0);
        echoes.keep(1);
        echoes.land();
        Check.due("again(0)", echoes.again(0), WellEchoes.LATE);
        Check.due("again(1)", echoes.again(1), WellEchoes.LATE);
        echoes.keep(1);
        Check.due("again(0)", echoes.again(0), WellEchoes.LATE);
        Check.due("again(1)", echoes.again(1), 1);
    }

    /** A land that is refused takes nothing that is kept. */
    static void promise28NotLateBehindARefusedLand() {
        WellEchoes echoes = Check.land("LW10S0090");
        echoes.keep(0);
        echoes.wipe();
        Check.due("land", echoes.land(), WellEchoes.LATE);
        Check.due("again(0)", echoes.again(0), 1);
    }

    static void promise28HowManySongs() {
        Check.due("EMPTY", Edge.State.EMPTY.make().again(1), 0);
        Check.due("ORDINARY", Edge.State.ORDINARY.make().again(0), 5);
        Check.due("FULL", Edge.State.FULL.make().again(0), 6);
        Check.due("FULL", Edge.State.FULL.make().again(1), 8);
    }

    static void promise28AsTheyWereKept() {
        WellEchoes ordinary = Edge.State.ORDINARY.make();
        ordinary.again(0);
        Edge.about(ordinary, 3, 5, 0, 7, 0, 35, 35, 0, 31);
        Edge.song(ordinary, 0, 0, 0, 9, 3, 0, 0);
        Edge.song(ordinary, 1, 1, 1, 8, 0, 0, 0);
        Edge.song(ordinary, 2, 5, 2, 1, 0, 0, 0);
        Edge.song(ordinary, 3, 0, 1, 8, 2, 0, 0);
        Edge.song(ordinary, 4, 0, 1, 7, 1, 0, 1);
        WellEchoes full = Edge.State.FULL.make();
        full.again(0);
        Edge.about(full, 4, 6, 0, 0, 0, 63, 63, 0, 56);
        Edge.loud(full, 9, 9, 9, 9, 8, 8);
        full.again(1);
        Edge.about(full, 4, 8, 2, 18, 8, 63, 63, 0, 56);
        Edge.loud(full, 5, 3, 3, 8, 4, 2, 5, 3);
    }

    static void promise28NoActs() {
        for (int slot = 0; slot <= 1; slot++) {
            WellEchoes echoes = Edge.State.FULL.make();
            Check.due("ACTS", echoes.about(7), 12);
            echoes.again(slot);
            Check.due("ACTS", echoes.about(7), 0);
            Check.due("undo", echoes.undo(), WellEchoes.LATE);
            echoes.lid(0);
            Check.due("undo", echoes.undo(), 0);
            Check.due("undo", echoes.undo(), WellEchoes.LATE);
        }
    }

    /** Whatever was done since, it is as if one had gone on at once; and again, and again. */
    static void promise28WhateverWasDoneSince() {
        Edge.State[] states = {Edge.State.EMPTY, Edge.State.ORDINARY, Edge.State.LIDDED, Edge.State.FULL};
        for (Edge.State state : states) {
            Edge.same(state + " gone on from", () -> {
                WellEchoes echoes = state.make();
                echoes.keep(0);
                echoes.year();
                echoes.lid(0);
                echoes.lid(1);
                echoes.sing(0, 1, 9, 1);
                echoes.year();
                echoes.again(0);
                echoes.year();
                echoes.again(0);
                return echoes;
            }, Every.answersOf(() -> {
                WellEchoes echoes = state.make();
                echoes.keep(0);
                echoes.again(0);
                return echoes;
            }));
        }
    }

    /** More SONGS and fewer than there are now. */
    static void promise28MoreAndFewerSongs() {
        WellEchoes echoes = Check.land("LW10W10S0090S1011");
        echoes.keep(0);
        echoes.sing(0, 1, 9, 0);
        echoes.keep(1);
        echoes.year();
        Edge.loud(echoes, 8, 8);
        Check.due("again(1)", echoes.again(1), 3);
        Edge.loud(echoes, 9, 1, 9);
        Check.due("BREATH", echoes.about(3), 9);
        Check.due("again(0)", echoes.again(0), 2);
        Edge.loud(echoes, 9, 1);
        Check.due("BREATH", echoes.about(3), 0);
    }

    /** THE TEXT, THE SEED, LAWS of THE LAND, the SLOTS stay. */
    static void promise28NothingElseIsChanged() {
        WellEchoes echoes = Check.land("LW10S0010S5091");
        echoes.keep(1);
        echoes.year();
        echoes.keep(0);
        echoes.seed(8);
        echoes.write('W');
        Check.due("again(1)", echoes.again(1), 2);
        Edge.about(echoes, 1, 2, 0, 0, 0, 33, 33, 0, 15);
        Check.due("THE SEED", echoes.seed(0), 8);
        Check.due("again(0)", echoes.again(0), 1);
        Check.due("again(1)", echoes.again(1), 2);
    }
}

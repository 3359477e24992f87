/** Promise 27, keep: SLOTS 0 .. 1 keep SONGS, LIDS, THE YEAR, BREATH. */
public final class Promise27KeepTest {
    public static void main(String[] args) {
        Edge.run(Promise27KeepTest.class);
    }

    static void promise27UnknownOutside0To1() {
        for (Edge.State state : Edge.State.values()) {
            for (int slot : Edge.outside(0, 1)) {
                Edge.refused(state, "keep(" + slot + ")", echoes -> echoes.keep(slot), WellEchoes.UNKNOWN);
            }
        }
    }

    static void promise27HowManySongs() {
        for (Edge.State state : Edge.State.values()) {
            Check.due("keep(0) in " + state, state.make().keep(0), state.songs);
            Check.due("keep(1) in " + state, state.make().keep(1), state.songs);
        }
        WellEchoes echoes = Check.land("LW10W10S0010");
        for (int songs = 1; songs <= 8; songs++) {
            Check.due("keep(0)", echoes.keep(0), songs);
            Check.due("again(0)", echoes.again(0), songs);
            echoes.sing(0, 1, 1, 0);
        }
    }

    /** Nothing is changed but the SLOT: it is no ACT; THE SEED, THE TEXT, the other SLOT stay. */
    static void promise27NothingElseIsChanged() {
        for (Edge.State state : Edge.State.values()) {
            for (int slot = 0; slot <= 1; slot++) {
                int kept = slot;
                Check.that("all but the SLOTS in " + state, Every.answersBesideSlots(() -> {
                    WellEchoes echoes = state.make();
                    echoes.keep(kept);
                    return echoes;
                }).equals(Every.answersBesideSlots(state::make)));
                WellEchoes echoes = state.make();
                echoes.keep(kept);
                Check.due("the other SLOT in " + state, echoes.again(1 - kept), state.make().again(1 - kept));
            }
        }
        Edge.changesNothing(Edge.State.FULL, "keep(1) of what it keeps", echoes -> echoes.keep(1), 8);
        WellEchoes echoes = Edge.State.FULL.make();
        echoes.keep(1);
        Check.due("undo", echoes.undo(), 11);
        Check.due("THE YEAR", echoes.about(2), 1);
    }

    static void promise27WhatIsDoneLaterIsNotKept() {
        WellEchoes echoes = Check.land("LW10W12S0090S1193");
        echoes.keep(0);
        echoes.keep(1);
        echoes.year();
        echoes.sing(0, 1, 9, 2);
        echoes.lid(0);
        for (int slot = 0; slot <= 1; slot++) {
            Check.due("again", echoes.again(slot), 2);
            Edge.about(echoes, 2, 2, 0, 0, 0, 3, 3, 0);
            Edge.loud(echoes, 9, 9);
            echoes.year();
        }
    }

    static void promise27EachSlotByItself() {
        WellEchoes echoes = Check.land("LW10S0040S1011");
        echoes.keep(0);
        echoes.year();
        echoes.keep(1);
        echoes.year();
        Check.due("again(0)", echoes.again(0), 2);
        Edge.loud(echoes, 4, 1);
        Check.due("again(1)", echoes.again(1), 1);
        Edge.loud(echoes, 3);
        Check.due("THE YEAR", echoes.about(2), 1);
        Check.due("again(0)", echoes.again(0), 2);
        Check.due("THE YEAR", echoes.about(2), 0);
    }

    static void promise27TheLastThatWasKept() {
        WellEchoes echoes = Check.land("LW10S0040S1011");
        echoes.keep(1);
        echoes.year();
        Check.due("keep(1)", echoes.keep(1), 1);
        echoes.undo();
        Edge.loud(echoes, 4, 1);
        Check.due("again(1)", echoes.again(1), 1);
        Edge.loud(echoes, 3);
        Check.due("the other one", echoes.again(0), WellEchoes.LATE);
    }

    /** No SONGS are something that can be kept. */
    static void promise27NoSongs() {
        WellEchoes echoes = new WellEchoes();
        Check.due("keep(1)", echoes.keep(1), 0);
        echoes.year();
        Check.due("again(1)", echoes.again(1), 0);
        Check.due("THE YEAR", echoes.about(2), 0);
        Check.due("again(0)", echoes.again(0), WellEchoes.LATE);
    }
}

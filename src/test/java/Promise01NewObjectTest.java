/** Promise 1, a new object: no WELLS, no SONGS; at first there is nothing. */
public final class Promise01NewObjectTest {
    public static void main(String[] args) {
        Edge.run(Promise01NewObjectTest.class);
    }

    static void promise01NoWells() {
        WellEchoes echoes = new WellEchoes();
        Check.due("WELLS", echoes.about(0), 0);
        for (int well : new int[] {-1, 0, 1, 3, 4}) {
            Check.due("well", echoes.well(well, 0), WellEchoes.UNKNOWN);
            Check.due("lid", echoes.lid(well), WellEchoes.UNKNOWN);
            Check.due("heard", echoes.heard(well, 0, false), WellEchoes.UNKNOWN);
            Check.due("back", echoes.back(well, 1, 0), WellEchoes.UNKNOWN);
        }
    }

    static void promise01NoSongs() {
        WellEchoes echoes = new WellEchoes();
        Check.due("SONGS", echoes.about(1), 0);
        for (int song : new int[] {-1, 0, 1, 5, 7, 8}) {
            Check.due("song", echoes.song(song, 0), WellEchoes.UNKNOWN);
            Check.due("sing", echoes.sing(song, 0, 1, 0), WellEchoes.UNKNOWN);
            Check.due("songLasts", echoes.songLasts(song), WellEchoes.UNKNOWN);
        }
    }

    static void promise01AtFirstAllNumbersAre0() {
        Edge.about(new WellEchoes(), 0, 0, 0, 0, 0, 0, 0, 0, 0);
    }

    static void promise01AtFirstThereIsNoText() {
        WellEchoes echoes = new WellEchoes();
        Check.due("fault", echoes.fault(), 0);
        Check.due("land", echoes.land(), WellEchoes.LATE);
        Check.due("wipe", echoes.wipe(), 0);
        Check.due("the first byte", echoes.write('L'), 1);
    }

    static void promise01AtFirstNothingIsDoneOrKept() {
        WellEchoes echoes = new WellEchoes();
        Check.due("undo", echoes.undo(), WellEchoes.LATE);
        Check.due("again(0)", echoes.again(0), WellEchoes.LATE);
        Check.due("again(1)", echoes.again(1), WellEchoes.LATE);
        Check.due("THE SEED", echoes.seed(0), 0);
    }

    static void promise01NothingToAskAfter() {
        WellEchoes echoes = new WellEchoes();
        for (int law = 0; law < 6; law++) {
            Check.due("lawLasts", echoes.lawLasts(law), 0);
            Check.due("mostPitch", echoes.mostPitch(law), WellEchoes.NONE);
            Check.due("truest", echoes.truest(law), WellEchoes.NONE);
            Check.due("rain, above", echoes.rain(law, 0, true), 0);
            Check.due("rain, below", echoes.rain(law, 10, false), 1);
        }
        Check.due("lost(0)", echoes.lost(0), 0);
        Check.due("lost(30)", echoes.lost(30), 0);
        for (int what = 0; what <= 1; what++) {
            Check.due("plan(1)", echoes.plan(1, what), 0);
            Check.due("plan(2)", echoes.plan(2, what), 0);
            Check.due("lords(1)", echoes.lords(1, what), 0);
            Check.due("lords(3)", echoes.lords(3, what), 0);
        }
        Check.due("bestLid(1)", echoes.bestLid(1), WellEchoes.NONE);
        Check.due("bestLid(9)", echoes.bestLid(9), WellEchoes.NONE);
        Check.due("lamps", echoes.lamps(), 0);
        Check.due("rains", echoes.rains(20, 10), 0);
        Check.due("without WELLS no step of THE SEED", echoes.seed(1), 0);
    }

    static void promise01WhatCanBeDoneWithNothing() {
        WellEchoes echoes = new WellEchoes();
        Check.due("keep", echoes.keep(0), 0);
        Check.due("year", echoes.year(), 0);
        Edge.about(echoes, 0, 0, 1, 0, 0, 0, 0, 1, 0);
        Check.due("again", echoes.again(0), 0);
        Edge.about(echoes, 0, 0, 0, 0, 0, 0, 0, 0, 0);
    }

    static void promise01ObjectsAreApart() {
        WellEchoes one = Check.land("LW10W22S0091S1182");
        one.sing(0, 1, 4, 3);
        one.seed(9);
        one.keep(0);
        Edge.same("behind another object's calls", WellEchoes::new, Edge.answersOf(Edge.State.NEW));
        WellEchoes other = Edge.State.FULL.make();
        other.year();
        Edge.about(one, 2, 3, 0, 4, 0, 3, 3, 1, 17);
        Edge.song(one, 2, 0, 1, 4, 3, 0, 0);
    }

    /** An object is used for at most 512 calls: the 512th is answered as all others. */
    static void promise01TheLastOf512Calls() {
        WellEchoes echoes = new WellEchoes();
        for (int call = 1; call <= 511; call++) {
            Check.due("year", echoes.year(), 0);
        }
        Check.due("THE YEAR", echoes.about(2), 511);
    }
}

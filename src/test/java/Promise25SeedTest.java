/** Promise 25, seed: THE SEED is a long, 0 at first. */
public final class Promise25SeedTest {
    private static final long TIMES = 6364136223846793005L;
    private static final long AND = 1442695040888963407L;

    public static void main(String[] args) {
        Edge.run(Promise25SeedTest.class);
    }

    static void promise25AtFirst0() {
        Check.due("THE SEED", new WellEchoes().seed(1), 0);
        Check.due("THE SEED", Check.land("LW10S0010").seed(1), 0);
    }

    /** All 64 bits stay. */
    static void promise25WhatItWas() {
        WellEchoes echoes = new WellEchoes();
        long was = 0;
        for (int bit = 0; bit < 64; bit++) {
            for (long v : new long[] {1L << bit, ~(1L << bit), (1L << bit) - 1}) {
                Check.due("seed", echoes.seed(v), was);
                was = v;
            }
        }
        Check.due("seed(MIN)", echoes.seed(Long.MIN_VALUE), was);
        Check.due("seed(MAX)", echoes.seed(Long.MAX_VALUE), Long.MIN_VALUE);
        Check.due("seed(-1)", echoes.seed(-1), Long.MAX_VALUE);
        Check.due("seed(0)", echoes.seed(0), -1);
        Check.due("seed(0)", echoes.seed(0), 0);
    }

    /** x times one number and another: 64 bits, wrapping, from the ends and from everywhere. */
    static void promise25StepsWrap() {
        long[] seeds = {0, 1, -1, Long.MIN_VALUE, Long.MAX_VALUE, TIMES, AND, -AND, 1L << 32, 1L << 33};
        for (long v : seeds) {
            WellEchoes echoes = Check.land("LW10");
            echoes.seed(v);
            echoes.rains(1, 0);
            Check.due("the step from " + v, echoes.seed(0), v * TIMES + AND);
        }
    }

    static void promise25NothingElseIsChanged() {
        for (Edge.State state : Edge.State.values()) {
            Edge.same(state + " behind seed and back", () -> {
                WellEchoes echoes = state.make();
                echoes.seed(echoes.seed(12345));
                return echoes;
            }, Edge.answersOf(state));
        }
    }

    /** It is no ACT, not of THE LAND, not kept. */
    static void promise25StaysThroughAllElse() {
        WellEchoes echoes = Check.land("LW10S0090");
        echoes.keep(0);
        echoes.year();
        echoes.seed(-7);
        echoes.undo();
        echoes.again(0);
        echoes.land();
        echoes.wipe();
        echoes.plan(2, 0);
        echoes.lords(3, 0);
        echoes.rain(0, 5, true);
        Check.due("THE SEED", echoes.seed(0), -7);
    }
}

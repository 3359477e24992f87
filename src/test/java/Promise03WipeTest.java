/** Promise 3, wipe: THE TEXT is empty, and how long it was. */
public final class Promise03WipeTest {
    public static void main(String[] args) {
        Edge.run(Promise03WipeTest.class);
    }

    static void promise03NothingThereYet() {
        Edge.changesNothing(Edge.State.NEW, "wipe()", WellEchoes::wipe, 0);
    }

    static void promise03HowLongItWas() {
        for (int length = 0; length <= 56; length++) {
            WellEchoes echoes = new WellEchoes();
            for (int letter = 0; letter < length; letter++) {
                echoes.write('L');
            }
            Check.due("wipe", echoes.wipe(), length);
            Check.due("bytes", echoes.about(8), 0);
            Check.due("wipe again", echoes.wipe(), 0);
        }
    }

    /** What was refused is not counted. */
    static void promise03FullTextWasNoLongerThan56() {
        WellEchoes echoes = Edge.State.FULL.make();
        echoes.write('L');
        echoes.write(256);
        Check.due("wipe", echoes.wipe(), 56);
    }

    static void promise03TheTextIsEmpty() {
        for (Edge.State state : Edge.State.values()) {
            WellEchoes echoes = state.make();
            Check.due("wipe in " + state, echoes.wipe(), state.text.length());
            Check.due("fault", echoes.fault(), 0);
            Check.due("land", echoes.land(), WellEchoes.LATE);
            Check.due("the first byte", echoes.write('L'), 1);
            Check.due("fault", echoes.fault(), WellEchoes.NONE);
        }
    }

    /** Bytes that were there do not come again behind fewer new ones. */
    static void promise03OldBytesAreGone() {
        WellEchoes echoes = Check.written("LW10S0010");
        echoes.wipe();
        echoes.write('L');
        echoes.write('W');
        Check.due("fault", echoes.fault(), 2);
        Check.rewrite(echoes, "L");
        Check.due("land", echoes.land(), 0);
        Check.due("no WELLS", echoes.about(0), 0);
    }

    static void promise03NothingElseIsChanged() {
        for (Edge.State state : Edge.State.values()) {
            Edge.same(state + " behind wipe and the same text", () -> {
                WellEchoes echoes = state.make();
                Check.rewrite(echoes, state.text);
                return echoes;
            }, Edge.answersOf(state));
        }
    }
}

/** Promise 2, write: bytes are 0 .. 255, 56 at most. */
public final class Promise02WriteTest {
    public static void main(String[] args) {
        Edge.run(Promise02WriteTest.class);
    }

    static void promise02LeastAndGreatestByte() {
        WellEchoes echoes = new WellEchoes();
        Check.due("write(0)", echoes.write(0), 1);
        Check.due("write(255)", echoes.write(255), 2);
        Check.due("bytes", echoes.about(8), 2);
    }

    static void promise02EveryByteComesBehind() {
        WellEchoes echoes = new WellEchoes();
        for (int letter = 0; letter <= 255; letter++) {
            Check.due("write(" + letter + ")", echoes.write(letter), 1);
            Check.due("wipe", echoes.wipe(), 1);
        }
    }

    static void promise02BadBelow0AndAbove255() {
        for (Edge.State state : Edge.State.values()) {
            for (int letter : Edge.outside(0, 255)) {
                Edge.refused(state, "write(" + letter + ")", echoes -> echoes.write(letter), WellEchoes.BAD);
            }
        }
    }

    /** A number whose lower eight bits are a byte is none. */
    static void promise02BadIsNotCutToAByte() {
        for (int letter : new int[] {256 + 'L', 'L' - 256, 65536 + 'L', Integer.MIN_VALUE + 'L'}) {
            Edge.refused(Edge.State.NEW, "write(" + letter + ")", echoes -> echoes.write(letter), WellEchoes.BAD);
        }
    }

    static void promise02TheLastByteIsThe56th() {
        WellEchoes echoes = new WellEchoes();
        for (int length = 1; length <= 56; length++) {
            Check.due("write", echoes.write('L'), length);
            Check.due("bytes", echoes.about(8), length);
        }
        Check.due("the 57th", echoes.write('L'), WellEchoes.FULL);
        Check.due("still 56", echoes.about(8), 56);
    }

    static void promise02FullAt56() {
        for (int letter : new int[] {0, 'L', 'W', 255}) {
            Edge.refused(Edge.State.FULL, "write(" + letter + ")", echoes -> echoes.write(letter), WellEchoes.FULL);
        }
    }

    /** BAD is told ahead of FULL. */
    static void promise02BadAheadOfFull() {
        for (int letter : Edge.outside(0, 255)) {
            Edge.refused(Edge.State.FULL, "write(" + letter + ")", echoes -> echoes.write(letter), WellEchoes.BAD);
        }
    }

    static void promise02RoomBehindWipe() {
        WellEchoes echoes = Edge.State.FULL.make();
        Check.due("full", echoes.write('L'), WellEchoes.FULL);
        echoes.wipe();
        for (int length = 1; length <= 56; length++) {
            Check.due("write", echoes.write(length), length);
        }
        Check.due("full again", echoes.write('L'), WellEchoes.FULL);
    }

    /** What comes behind THE TEXT is no ACT, and THE LAND stays as it was until it is made anew. */
    static void promise02TheLandStays() {
        for (Edge.State state : new Edge.State[] {Edge.State.ORDINARY, Edge.State.LIDDED, Edge.State.EMPTY}) {
            Edge.same("behind write and back", () -> {
                WellEchoes echoes = state.make();
                echoes.write('S');
                Check.rewrite(echoes, state.text);
                return echoes;
            }, Edge.answersOf(state));
        }
    }
}

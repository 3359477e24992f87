/** Promise 20, mostPitch: the PITCH that most SONGS of a LAW have. */
public final class Promise20MostPitchTest {
    public static void main(String[] args) {
        Edge.run(Promise20MostPitchTest.class);
    }

    private static void most(String text, int law, int due) {
        Check.due("mostPitch(" + law + ") of " + text, Check.land(text).mostPitch(law), due);
    }

    static void promise20BadOutside0To5() {
        for (Edge.State state : Edge.State.values()) {
            for (int law : Edge.outside(0, 5)) {
                Edge.refused(state, "mostPitch(" + law + ")", echoes -> echoes.mostPitch(law), WellEchoes.BAD);
            }
        }
    }

    static void promise20ThereIsNone() {
        for (int law = 0; law <= 5; law++) {
            int asked = law;
            Edge.changesNothing(Edge.State.NEW, "mostPitch", echoes -> echoes.mostPitch(asked), WellEchoes.NONE);
            Edge.changesNothing(Edge.State.EMPTY, "mostPitch", echoes -> echoes.mostPitch(asked), WellEchoes.NONE);
            most("LW10", law, WellEchoes.NONE);
        }
        most("LW10S0010", 1, WellEchoes.NONE);
        WellEchoes gone = Check.land("LW10S0012");
        Check.due("one", gone.mostPitch(0), 2);
        gone.year();
        Check.due("gone", gone.mostPitch(0), WellEchoes.NONE);
    }

    static void promise20OneSong() {
        for (int law = 0; law <= 5; law++) {
            for (int pitch = 0; pitch <= 3; pitch++) {
                most("LW10S" + law + "01" + pitch, law, pitch);
            }
        }
    }

    /** Of any two PITCHES as many: none; one more of either: that one. */
    static void promise20OfTwoAsMany() {
        for (int one = 0; one <= 3; one++) {
            for (int other = 0; other <= 3; other++) {
                if (one != other) {
                    String two = "LW10S001" + one + "S001" + other;
                    most(two, 0, WellEchoes.NONE);
                    most(two + "S001" + one, 0, one);
                    most(two + "S001" + one + "S001" + other, 0, WellEchoes.NONE);
                    most(two + "S001" + one + "S001" + other + "S001" + other, 0, other);
                }
            }
        }
    }

    /** Two that have as many, but fewer than another one, don't matter. */
    static void promise20LesserOnesAsMany() {
        most("LW10S0010S0011S0012S0012", 0, 2);
        most("LW10S0010S0010S0011S0012", 0, 0);
        most("LW10S0013S0011S0013S0012S0010", 0, 3);
        most("LW10S0010S0011S0012S0013", 0, WellEchoes.NONE);
        most("LW10S0010S0010S0011S0012S0012", 0, WellEchoes.NONE);
        most("LW10S0010S0011S0011S0013S0013", 0, WellEchoes.NONE);
    }

    /** SONGS of other LAWS are not counted; those in all WELLS are. */
    static void promise20OfThatLawAlone() {
        most("LW10W10S0010S1011S1011S0110S0111", 0, 0);
        most("LW10W10S0010S1011S1011S0110S0111", 1, 1);
        most("LW10W10W10W10S5012S5112S5213S5313S5011S5313", 5, 3);
    }

    /** A LID hides none of them, and how loud they are is nothing. */
    static void promise20UnderLidsToo() {
        WellEchoes echoes = Check.land("LW10W10S0013S0111S0192S0110S0013");
        for (int well : new int[] {0, 1, 0, 1}) {
            Check.due("mostPitch", echoes.mostPitch(0), 3);
            echoes.lid(well);
        }
        WellEchoes even = Check.land("LW10W10S0013S0192");
        even.lid(0);
        Check.due("one of two under a LID", even.mostPitch(0), WellEchoes.NONE);
    }

    static void promise20OfEightCopies() {
        WellEchoes echoes = Check.land("LW10W10S0090S0091S0092S0093S0190S0191");
        Check.due("of six", echoes.mostPitch(0), WellEchoes.NONE);
        echoes.sing(0, 1, 9, 2);
        Check.due("of seven", echoes.mostPitch(0), WellEchoes.NONE);
        echoes.sing(0, 1, 9, 2);
        Check.due("of eight", echoes.mostPitch(0), 2);
        echoes.undo();
        echoes.sing(0, 1, 9, 3);
        Check.due("two of each", echoes.mostPitch(0), WellEchoes.NONE);
    }

    static void promise20OnlyAsks() {
        for (int law = 0; law <= 5; law++) {
            int asked = law;
            Edge.onlyAsks(Edge.State.FULL, "mostPitch(" + law + ")", echoes -> echoes.mostPitch(asked));
        }
    }
}

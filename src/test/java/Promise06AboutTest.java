/** Promise 6, about: 0 .. 8, each from nothing to as many as there can be. */
public final class Promise06AboutTest {
    public static void main(String[] args) {
        Edge.run(Promise06AboutTest.class);
    }

    static void promise06InEveryState() {
        Edge.about(Edge.State.NEW.make(), 0, 0, 0, 0, 0, 0, 0, 0, 0);
        Edge.about(Edge.State.FAULTY.make(), 0, 0, 0, 0, 0, 0, 0, 0, 5);
        Edge.about(Edge.State.EMPTY.make(), 0, 0, 1, 0, 0, 0, 0, 1, 1);
        Edge.about(Edge.State.ORDINARY.make(), 3, 4, 1, 7, 4, 35, 3, 3, 31);
        Edge.about(Edge.State.LIDDED.make(), 2, 3, 1, 0, 3, 7, 7, 3, 22);
        Edge.about(Edge.State.FULL.make(), 4, 8, 2, 18, 8, 63, 63, 12, 56);
    }

    static void promise06BadOutside0To8() {
        for (Edge.State state : Edge.State.values()) {
            for (int what : Edge.outside(0, 8)) {
                Edge.refused(state, "about(" + what + ")", echoes -> echoes.about(what), WellEchoes.BAD);
            }
        }
    }

    static void promise06OnlyAsks() {
        for (int what = 0; what <= 8; what++) {
            int asked = what;
            Edge.onlyAsks(Edge.State.FULL, "about(" + what + ")", echoes -> echoes.about(asked));
        }
    }

    static void promise06WellsAndSongsFromNoneToMost() {
        String text = "L";
        for (int wells = 0; wells <= 4; wells++) {
            Edge.about(Check.land(text), wells, 0);
            text += "W10";
        }
        text = "LW10";
        for (int songs = 0; songs <= 6; songs++) {
            Edge.about(Check.land(text), 1, songs);
            text += "S0090";
        }
    }

    static void promise06TheYearHasNoEnd() {
        WellEchoes echoes = Check.land("LW10S0010");
        for (int year = 1; year <= 300; year++) {
            echoes.year();
        }
        Check.due("THE YEAR", echoes.about(2), 300);
    }

    static void promise06BreathHasNoEnd() {
        WellEchoes echoes = Check.land("LW10W10S0090");
        int breath = 0;
        for (int time = 0; time < 10; time++) {
            for (int copy = 0; copy < 7; copy++) {
                Check.due("sing", echoes.sing(0, 1, copy == 0 ? 1 : 6, 0), copy + 1);
                breath += copy == 0 ? 1 : 6;
                Check.due("BREATH", echoes.about(3), breath);
            }
            echoes.lid(0);
            Check.due("seven in one WELL of one PITCH are gone", echoes.year(), 7);
            echoes.lid(0);
        }
        Check.due("BREATH", echoes.about(3), 370);
    }

    static void promise06LidsAreBits() {
        WellEchoes echoes = Check.land("LW10W10W10W10");
        for (int well = 0; well < 4; well++) {
            echoes.lid(well);
            Check.due("LIDS", echoes.about(4), (2 << well) - 1);
        }
        for (int well = 0; well < 4; well++) {
            echoes.lid(well);
            Check.due("LIDS", echoes.about(4), 15 - ((2 << well) - 1));
        }
    }

    static void promise06LawsAreBits() {
        int all = 0;
        String text = "LW10";
        for (int law = 0; law <= 5; law++) {
            WellEchoes one = Check.land("LW10S" + law + "010");
            Check.due("LAWS of THE LAND", one.about(5), 1 << law);
            Check.due("LAWS that are had", one.about(6), 1 << law);
            all |= 1 << law;
            text += "S" + law + "010";
            Check.due("LAWS of THE LAND", Check.land(text).about(5), all);
            Check.due("LAWS that are had", Check.land(text).about(6), all);
        }
    }

    static void promise06LawsOfTheLandStayWhenTheyAreGone() {
        WellEchoes echoes = Check.land("LW10S0010S5021");
        Edge.about(echoes, 1, 2, 0, 0, 0, 33, 33, 0);
        echoes.year();
        Edge.about(echoes, 1, 1, 1, 0, 0, 33, 32, 1);
        echoes.year();
        Edge.about(echoes, 1, 0, 2, 0, 0, 33, 0, 2);
        echoes.undo();
        Edge.about(echoes, 1, 1, 1, 0, 0, 33, 32, 1);
    }

    /** LAWS of THE LAND are those of the TEXT that was landed, not of THE TEXT as it is now. */
    static void promise06LawsOfTheLandAreNotOfALaterText() {
        WellEchoes echoes = Check.land("LW10S0010");
        echoes.wipe();
        Check.due("LAWS of THE LAND", echoes.about(5), 1);
        Check.rewrite(echoes, "LW10S5010");
        Check.due("LAWS of THE LAND", echoes.about(5), 1);
        echoes.land();
        Check.due("LAWS of THE LAND", echoes.about(5), 32);
    }

    static void promise06ALawOfTwoSongsIsOne() {
        WellEchoes echoes = Check.land("LW10W10S2010S2021S2113");
        Check.due("LAWS that are had", echoes.about(6), 4);
        echoes.year();
        Check.due("one left has it", echoes.about(6), 4);
    }

    static void promise06ActsAre12AtMost() {
        WellEchoes echoes = Check.land("LW10");
        for (int act = 1; act <= 14; act++) {
            echoes.lid(0);
            Check.due("ACTS", echoes.about(7), Math.min(act, 12));
        }
        echoes.undo();
        Check.due("ACTS", echoes.about(7), 11);
        echoes.year();
        Check.due("ACTS", echoes.about(7), 12);
        echoes.year();
        Check.due("ACTS", echoes.about(7), 12);
    }

    static void promise06BytesOfTheText() {
        WellEchoes echoes = Check.land("L");
        for (int length = 1; length <= 56; length++) {
            Check.due("bytes", echoes.about(8), length);
            echoes.write('x');
        }
        Check.due("bytes", echoes.about(8), 56);
        echoes.wipe();
        Check.due("bytes", echoes.about(8), 0);
    }
}

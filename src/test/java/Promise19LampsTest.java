/** Promise 19, lamps: the fewest by which of each LAW a SONG is HEARD. */
public final class Promise19LampsTest {
    public static void main(String[] args) {
        Edge.run(Promise19LampsTest.class);
    }

    private static void lamps(String text, int due) {
        Check.due("lamps of " + text, Check.land(text).lamps(), due);
    }

    static void promise19NoLawNoLamp() {
        Edge.changesNothing(Edge.State.NEW, "lamps()", WellEchoes::lamps, 0);
        Edge.changesNothing(Edge.State.FAULTY, "lamps()", WellEchoes::lamps, 0);
        Edge.changesNothing(Edge.State.EMPTY, "lamps()", WellEchoes::lamps, 0);
        lamps("LW10W90W92W11", 0);
        WellEchoes gone = Check.land("LW10S0010");
        Check.due("one", gone.lamps(), 1);
        gone.year();
        Check.due("LAWS that are gone need none", gone.lamps(), 0);
        gone.lid(0);
        Check.due("under a LID, too", gone.lamps(), 0);
    }

    static void promise19NoneUnderALid() {
        WellEchoes echoes = Check.land("LW90W90S0090S1190S0111");
        Check.due("without LIDS", echoes.lamps(), 1);
        echoes.lid(0);
        Check.due("the other WELL has both", echoes.lamps(), 1);
        echoes.lid(1);
        Check.due("both have LIDS", echoes.lamps(), WellEchoes.NONE);
        echoes.lid(0);
        Check.due("one LAW under the LID alone", echoes.lamps(), WellEchoes.NONE);
        Edge.changesNothing(Edge.State.LIDDED, "lamps()", WellEchoes::lamps, WellEchoes.NONE);
    }

    static void promise19OneForEachWell() {
        lamps("LW10S0010", 1);
        lamps("LW10W10S0010S1110", 2);
        lamps("LW10W10W10S0010S1110S2210", 3);
        lamps("LW10W10W10W10S0010S1110S2210S3310", 4);
        lamps("LW90S0010S1011S2012S3013S4010S5011", 1);
    }

    /** Of each LAW one SONG is enough. */
    static void promise19FewestOfAll() {
        lamps("LW10W10W10W10S0010S1110S2210S3310S0111S2111", 2);
        lamps("LW10W10W10S0010S1011S1110S2111S0210S2211", 2);
        lamps("LW10W10W10W10S0010S0110S0210S0310", 1);
    }

    /** The LAMP that tells most, or as many as any, may not be of the fewest, first or last. */
    static void promise19NotOneByOne() {
        lamps("LW90W90W90S0010S1011S0110S2111S1210S3211", 2);
        lamps("LW90W90W90S3010S4011S2110S5111S4210S5211", 2);
        lamps("LW90W90W90S3010S4011S4110S5111S2210S5211", 2);
    }

    /** The WELL whose LAWS are the last ones is none of the fewest. */
    static void promise19TheLastWellIsNotNeeded() {
        lamps("LW90W90W90S5010S2011S5110S0111S2210S3211", 2);
        lamps("LW90W90W90S2010S3011S5110S0111S5210S2211", 2);
        lamps("LW90W90W90S0010S1111S2210S0012S1112S2213", 3);
    }

    /** Not at noon: PITCHES 2 and 3 are HEARD. */
    static void promise19NotAtNoon() {
        lamps("LW10S0012", 1);
        lamps("LW10S0013", 1);
        lamps("LW10W10S0013S1112", 2);
    }

    /** A faint SONG is HEARD where it lies alone: at 0 first, at 9 at last. */
    static void promise19FromTheTopToTheDepth() {
        WellEchoes echoes = Check.land("LW90S0010");
        for (int age = 0; age <= 12; age++) {
            Check.due("AGE " + age, echoes.lamps(), 1);
            Edge.growOlder(echoes, 1);
        }
    }

    /** Two at two places: one LAMP between them if both are louder than their ways to it, else two. */
    static void promise19OneLampBetweenTwo() {
        for (int age = 0; age <= 9; age++) {
            for (int old = 1; old <= 9; old++) {
                WellEchoes echoes = Check.land("LW90W90S00" + old + "0S1190");
                Edge.growOlder(echoes, age);
                for (int young = 1; young <= 9; young++) {
                    echoes.sing(1, 0, young, 1);
                    Check.due("AGE " + age + ", loud " + old + " and " + young, echoes.lamps(),
                            old - 1 + young - 1 >= age ? 1 : 2);
                    echoes.undo();
                }
            }
        }
    }

    /** Two LAWS in each of two WELLS so far apart that each needs a LAMP, and one in each of the others. */
    private static WellEchoes sixApart() {
        WellEchoes echoes = Check.land("LW90W90W90W90S0090S1190S2290S3390S4111S5011");
        Edge.growOlder(echoes, 9);
        echoes.sing(4, 0, 2, 2);
        echoes.sing(5, 1, 2, 2);
        Check.due("two are gone", echoes.year(), 2);
        Edge.loud(echoes, 8, 8, 8, 8, 1, 1);
        return echoes;
    }

    static void promise19SixLampsForSixLaws() {
        Check.due("lamps", sixApart().lamps(), 6);
        for (int well = 0; well < 4; well++) {
            WellEchoes echoes = sixApart();
            echoes.lid(well);
            Check.due("with a LID", echoes.lamps(), WellEchoes.NONE);
        }
    }

    static void promise19FiveLamps() {
        WellEchoes echoes = sixApart();
        echoes.sing(3, 0, 9, 3);
        Check.due("one WELL less", echoes.lamps(), 5);
        echoes.lid(3);
        Check.due("that one with a LID", echoes.lamps(), 5);
    }

    static void promise19OnlyAsks() {
        Edge.onlyAsks(Edge.State.ORDINARY, "lamps()", WellEchoes::lamps);
        Edge.onlyAsks(Edge.State.FULL, "lamps()", WellEchoes::lamps);
        Check.due("WELL 3 has a LID", Edge.State.FULL.make().lamps(), WellEchoes.NONE);
        Check.due("of eight SONGS", withoutLid(Edge.State.FULL.make()).lamps(), 4);
    }

    private static WellEchoes withoutLid(WellEchoes echoes) {
        echoes.lid(3);
        return echoes;
    }
}

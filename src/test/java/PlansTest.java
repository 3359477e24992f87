/** Promises 17 to 23: plans, lids, lamps, the most and truest copies, how loud it was, two lords. */
public final class PlansTest {
    private static final int[] FAR = {-1, Integer.MIN_VALUE, Integer.MAX_VALUE};

    public static void main(String[] args) {
        planForOneYear();
        planForTwoYears();
        planKeepsToTheRules();
        planRefused();
        bestLid();
        bestLidRefused();
        lamps();
        lampsAtTwoDepths();
        mostPitch();
        truest();
        back();
        lordsByOneTurn();
        lordsByMoreTurns();
        lordsRefused();
        Check.end("PlansTest");
    }

    private static void plan(WellEchoes echoes, int n, int laws, int first) {
        Check.still(echoes, "plan(" + n + ", 0)", () -> echoes.plan(n, 0), laws);
        Check.still(echoes, "plan(" + n + ", 1)", () -> echoes.plan(n, 1), first);
    }

    /** Promise 17. */
    private static void planForOneYear() {
        plan(new WellEchoes(), 1, 0, 0);
        plan(Check.land("LW10W10S0040"), 1, 1, 2);
        plan(Check.land("LW10W10S0140"), 1, 1, 1);
        plan(Check.land("LW10W10W10S0140"), 1, 1, 1);
        plan(Check.land("LW10W10S0050"), 1, 1, 0);
        plan(Check.land("LW10W10S0040S0041"), 1, 1, 2);
        plan(Check.land("LW10W10S0050S1141"), 1, 2, 3);
        plan(Check.land("LW11W11S0090"), 1, 1, 0);
        plan(Check.land("LW11W11S0080"), 1, 0, 0);
        plan(Check.land("LW11W10S0080"), 1, 1, 2);
        plan(Check.land("LW10S0040"), 1, 0, 0);
        plan(Check.land("LW10S0050"), 1, 1, 0);
        plan(Check.land("LW10W10S0040S1140"), 1, 0, 0);
        plan(Check.land("LW10W10S0090S0091S0092S1043"), 1, 2, 8);
    }

    private static void planForTwoYears() {
        plan(new WellEchoes(), 2, 0, 0);
        plan(Check.land("LW10W10S0060"), 2, 1, 0);
        plan(Check.land("LW10W10S0050"), 2, 1, 0);
        plan(Check.land("LW10W10S0010"), 2, 1, 2);
        plan(Check.land("LW10W10S0010S1121"), 2, 2, 2);
        plan(Check.land("LW10W10S0021S1110"), 2, 2, 3);
        plan(Check.land("LW10W10S0010S1011"), 2, 1, 2);
        plan(Check.land("LW10W11S0020"), 2, 1, 2);
        plan(Check.land("LW11W11S0020"), 2, 0, 0);
        plan(Check.land("LW10S0050"), 2, 0, 0);
        plan(Check.land("LW10S0060"), 2, 1, 0);
        plan(Check.land("LW10W11S0120"), 2, 1, 1);
        plan(Check.land("LW10W11S0130"), 2, 1, 0);
    }

    private static void planKeepsToTheRules() {
        WellEchoes lid = Check.land("LW10W10W10S0140");
        lid.lid(0);
        plan(lid, 1, 1, 2);
        lid.lid(2);
        plan(lid, 1, 0, 0);
        WellEchoes own = Check.land("LW11W10S0040");
        own.lid(0);
        plan(own, 1, 0, 0);
        WellEchoes full = Check.land("LW10W10S0010S1110S1112S1113S2190S3192");
        full.sing(1, 0, 1, 1);
        Check.due("seven", full.about(1), 7);
        plan(full, 1, 3, 3);
        full.sing(1, 0, 1, 1);
        Check.due("eight", full.about(1), 8);
        plan(full, 1, 2, 0);
    }

    private static void planRefused() {
        WellEchoes echoes = Check.land("LW10W10S0040");
        for (int far : FAR) {
            Check.still(echoes, "plan(" + far + ", 0)", () -> echoes.plan(far, 0), WellEchoes.BAD);
            Check.still(echoes, "plan(1, " + far + ")", () -> echoes.plan(1, far), WellEchoes.BAD);
        }
        Check.still(echoes, "plan(0, 0)", () -> echoes.plan(0, 0), WellEchoes.BAD);
        Check.still(echoes, "plan(3, 0)", () -> echoes.plan(3, 0), WellEchoes.BAD);
        Check.still(echoes, "plan(2, 2)", () -> echoes.plan(2, 2), WellEchoes.BAD);
    }

    private static void bestLid(WellEchoes echoes, int n, int due) {
        Check.still(echoes, "bestLid(" + n + ")", () -> echoes.bestLid(n), due);
    }

    /** Promise 18. */
    private static void bestLid() {
        WellEchoes echoes = Check.land("LW10W10S0030S1130");
        bestLid(echoes, 2, WellEchoes.NONE);
        bestLid(echoes, 3, 0);
        echoes.lid(0);
        bestLid(echoes, 3, 1);
        echoes.lid(1);
        bestLid(echoes, 3, WellEchoes.NONE);
        WellEchoes more = Check.land("LW10W10W10S0021S1230S2231S3133");
        bestLid(more, 1, WellEchoes.NONE);
        bestLid(more, 2, 0);
        bestLid(more, 3, 2);
        bestLid(more, 9, 2);
        WellEchoes rough = Check.land("LW11W10S0020S1120");
        bestLid(rough, 1, 0);
        bestLid(rough, 2, 1);
        bestLid(new WellEchoes(), 1, WellEchoes.NONE);
        WellEchoes empty = Check.land("LW10W10S1110");
        empty.lid(0);
        bestLid(empty, 1, 1);
    }

    private static void bestLidRefused() {
        WellEchoes echoes = Check.land("LW10W10S0030");
        for (int far : FAR) {
            bestLid(echoes, far, WellEchoes.BAD);
        }
        bestLid(echoes, 0, WellEchoes.BAD);
        bestLid(echoes, 10, WellEchoes.BAD);
    }

    private static void lamps(WellEchoes echoes, int due) {
        Check.still(echoes, "lamps()", echoes::lamps, due);
    }

    /** Promise 19. */
    private static void lamps() {
        lamps(new WellEchoes(), 0);
        lamps(Check.land("LW90"), 0);
        lamps(Check.land("LW90S0010S1012"), 1);
        lamps(Check.land("LW90S0020S1032"), 1);
        lamps(Check.land("LW90W90S0010S1112"), 2);
        lamps(Check.land("LW90W90S0010S1112S1013"), 1);
        lamps(Check.land("LW90W90W90S0010S1011S1110S2111S0210S2211"), 2);
        lamps(Check.land("LW90W90W90W90S0010S1110S2210S3310"), 4);
        WellEchoes lid = Check.land("LW90W90S0010S1112S1013");
        lid.lid(0);
        lamps(lid, WellEchoes.NONE);
        lid.lid(0);
        lid.lid(1);
        lamps(lid, 1);
        WellEchoes gone = Check.land("LW90W90S0010S1192");
        gone.year();
        lamps(gone, 1);
    }

    private static void lampsAtTwoDepths() {
        WellEchoes deep = Check.land("LW90S0010");
        deep.lid(0);
        for (int year = 0; year < 9; year++) {
            deep.year();
        }
        deep.lid(0);
        lamps(deep, 1);
        Check.due("heard at the lowest alone", deep.heard(0, 9, false) * 10 + deep.heard(0, 8, false), 10);
        WellEchoes echoes = Check.land("LW90W90S0060S1193");
        for (int year = 0; year < 5; year++) {
            echoes.year();
        }
        echoes.lid(1);
        lamps(echoes, WellEchoes.NONE);
        echoes.lid(1);
        echoes.sing(1, 0, 1, 1);
        echoes.lid(1);
        lamps(echoes, 2);
        echoes.undo();
        echoes.undo();
        echoes.sing(1, 0, 5, 1);
        echoes.lid(1);
        lamps(echoes, 2);
        echoes.undo();
        echoes.undo();
        echoes.sing(1, 0, 6, 1);
        echoes.lid(1);
        lamps(echoes, 1);
    }

    private static void mostPitch(WellEchoes echoes, int law, int due) {
        Check.still(echoes, "mostPitch(" + law + ")", () -> echoes.mostPitch(law), due);
    }

    /** Promise 20. */
    private static void mostPitch() {
        WellEchoes echoes = Check.land("LW90W90S0013S0113S0011S1012S2011S2012");
        mostPitch(echoes, 0, 3);
        mostPitch(echoes, 1, 2);
        mostPitch(echoes, 2, WellEchoes.NONE);
        mostPitch(echoes, 3, WellEchoes.NONE);
        echoes.sing(0, 1, 9, 1);
        mostPitch(echoes, 0, WellEchoes.NONE);
        echoes.sing(0, 1, 9, 1);
        mostPitch(echoes, 0, 1);
        mostPitch(Check.land("LW90S0010S1013"), 0, 0);
        WellEchoes three = Check.land("LW90S0010S0011S0012S0012");
        mostPitch(three, 0, 2);
        for (int law : FAR) {
            mostPitch(echoes, law, WellEchoes.BAD);
        }
        mostPitch(echoes, 6, WellEchoes.BAD);
        mostPitch(echoes, 5, WellEchoes.NONE);
    }

    private static void truest(WellEchoes echoes, int law, int due) {
        Check.still(echoes, "truest(" + law + ")", () -> echoes.truest(law), due);
    }

    /** Promise 21. */
    private static void truest() {
        WellEchoes echoes = Check.land("LW92W92S1110S0010S0190");
        truest(echoes, 0, 1);
        truest(echoes, 1, 0);
        truest(echoes, 2, WellEchoes.NONE);
        echoes.sing(1, 1, 9, 1);
        echoes.sing(3, 0, 9, 2);
        echoes.sing(1, 1, 9, 3);
        truest(echoes, 0, 1);
        echoes.lid(1);
        Check.due("the old ones are gone", echoes.year(), 2);
        truest(echoes, 0, 0);
        truest(echoes, 1, WellEchoes.NONE);
        WellEchoes slips = Check.land("LW92W92S0010");
        slips.sing(0, 1, 9, 1);
        slips.sing(1, 0, 9, 2);
        slips.sing(0, 1, 8, 3);
        slips.year();
        Check.due("two slips", slips.song(1, 5), 2);
        truest(slips, 0, 0);
        slips.sing(1, 1, 9, 0);
        slips.undo();
        for (int law : FAR) {
            truest(echoes, law, WellEchoes.BAD);
        }
        truest(echoes, 6, WellEchoes.BAD);
        truest(echoes, 5, WellEchoes.NONE);
        WellEchoes later = Check.land("LW92W92S0010S0193");
        later.sing(0, 1, 9, 1);
        later.year();
        Check.due("slips of the first one", later.song(0, 5), 0);
        truest(later, 0, 0);
        WellEchoes fewerBehind = Check.land("LW92W90W90S0010S0213S1290");
        fewerBehind.sing(0, 1, 9, 1);
        fewerBehind.sing(1, 0, 9, 2);
        fewerBehind.year();
        Check.due("a slip ahead", fewerBehind.song(1, 5), 1);
        Check.due("none behind", fewerBehind.song(2, 5), 0);
        truest(fewerBehind, 0, 2);
    }

    private static void back(WellEchoes echoes, int well, int v, int n, int due) {
        Check.still(echoes, "back(" + well + ", " + v + ", " + n + ")", () -> echoes.back(well, v, n), due);
    }

    /** Promise 22. */
    private static void back() {
        WellEchoes echoes = Check.land("LW10W11W12S0090S0090");
        back(echoes, 0, 1, 0, 1);
        back(echoes, 0, 1, 9, 10);
        back(echoes, 1, 4, 3, 10);
        back(echoes, 2, 9, 9, 36);
        for (int well = 0; well < 3; well++) {
            echoes.lid(well);
            back(echoes, well, 5, 4, 5 + 4 * well);
        }
        for (int far : FAR) {
            back(echoes, far, 0, 10, WellEchoes.UNKNOWN);
            back(echoes, 0, far, 1, WellEchoes.BAD);
            back(echoes, 0, 1, far, WellEchoes.BAD);
        }
        back(echoes, 3, 1, 1, WellEchoes.UNKNOWN);
        back(echoes, 0, 0, 1, WellEchoes.BAD);
        back(echoes, 0, 10, 1, WellEchoes.BAD);
        back(echoes, 0, 1, 10, WellEchoes.BAD);
    }

    private static void lords(WellEchoes echoes, int n, int laws, int first) {
        Check.still(echoes, "lords(" + n + ", 0)", () -> echoes.lords(n, 0), laws);
        Check.still(echoes, "lords(" + n + ", 1)", () -> echoes.lords(n, 1), first);
    }

    /** Promise 23. */
    private static void lordsByOneTurn() {
        lords(new WellEchoes(), 1, 0, 0);
        lords(Check.land("LW10S0050"), 1, 1, 0);
        lords(Check.land("LW10S0040"), 1, 1, 1);
        lords(Check.land("LW10W10S0140"), 1, 1, 2);
        lords(Check.land("LW10W10S0040S1140"), 1, 1, 1);
        WellEchoes lid = Check.land("LW10W10S0040S1140");
        lid.lid(1);
        lords(lid, 1, 2, 1);
        lid.lid(0);
        lords(lid, 1, 2, 0);
    }

    private static void lordsByMoreTurns() {
        lords(new WellEchoes(), 3, 0, 0);
        lords(Check.land("LW10S0040"), 2, 0, 0);
        lords(Check.land("LW10S0040"), 3, 1, 0);
        lords(Check.land("LW10W10S0040S1140"), 2, 0, 0);
        lords(Check.land("LW10W10S0040S1140"), 3, 1, 0);
        WellEchoes lid = Check.land("LW10W10S0040S1140");
        lid.lid(0);
        lords(lid, 2, 1, 2);
        lords(lid, 3, 2, 2);
        lid.lid(1);
        lords(lid, 2, 1, 0);
        lords(lid, 3, 2, 0);
    }

    private static void lordsRefused() {
        WellEchoes echoes = Check.land("LW10W10S0040");
        for (int far : FAR) {
            Check.still(echoes, "lords(" + far + ", 0)", () -> echoes.lords(far, 0), WellEchoes.BAD);
            Check.still(echoes, "lords(1, " + far + ")", () -> echoes.lords(1, far), WellEchoes.BAD);
        }
        Check.still(echoes, "lords(0, 0)", () -> echoes.lords(0, 0), WellEchoes.BAD);
        Check.still(echoes, "lords(4, 0)", () -> echoes.lords(4, 0), WellEchoes.BAD);
        Check.still(echoes, "lords(3, 2)", () -> echoes.lords(3, 2), WellEchoes.BAD);
    }
}

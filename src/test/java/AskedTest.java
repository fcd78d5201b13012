/** Promises 16 to 20, and AT REST: ahead, crowd, jitter, round, judge. */
public final class AskedTest {
    private static final Check CHECK = new Check();
    private static final String TWO_LEAVE = "M331123j0j1j2j3j4j5999l1l2";

    /** The REPORTS of this MEETING, found by hand in ActsTest, are at 6, 19 and 22. */
    private static void aheadByHand() {
        CrowdReports x = Check.met("M911000j0j1");
        String before = Check.all(x);
        int[] ticks = {0, 5, 6, 18, 19, 21, 22};
        int[] reports = {0, 0, 1, 1, 2, 2, 3};
        for (int i = 0; i < ticks.length; i++) {
            CHECK.due("ahead " + ticks[i], x.ahead(ticks[i], 0), reports[i]);
        }
        CHECK.due("THE LOT now", x.ahead(0, 3), 48742);
        CHECK.due("THE LOT ahead", x.ahead(4, 3), 31223);
        CHECK.due("BYES ahead", x.ahead(99, 1), 0);
        CHECK.due("THERE ahead", x.ahead(99, 2), 3);
        CHECK.due("crowd 5", x.crowd(5), 0);
        CHECK.due("crowd 6", x.crowd(6), 1);
        CHECK.due("at rest", x.about(9), 22);
        CHECK.holds("nothing is changed", before.equals(Check.all(x)));
    }

    private static void aheadIsAsPassed() {
        CHECK.holds("some are LEAVING", Check.met(TWO_LEAVE).about(8) != 0);
        int firstRest = -9;
        for (int k = 0; k <= 99; k++) {
            CrowdReports x = Check.met(TWO_LEAVE);
            CrowdReports y = Check.met(TWO_LEAVE);
            Check.passAll(y, k);
            CHECK.due("REPORTS ahead " + k, x.ahead(k, 0), y.about(5));
            CHECK.due("BYES ahead " + k, x.ahead(k, 1), y.about(6));
            CHECK.due("THERE ahead " + k, x.ahead(k, 2), y.about(7));
            CHECK.due("THE LOT ahead " + k, x.ahead(k, 3), y.about(4));
            if (firstRest < 0 && y.about(9) == 0) {
                firstRest = k;
            }
        }
        CHECK.due("AT REST", Check.met(TWO_LEAVE).about(9), firstRest);
    }

    private static void crowdIsAsPassed() {
        CrowdReports x = Check.met(TWO_LEAVE);
        CrowdReports y = Check.met(TWO_LEAVE);
        int most = 0;
        for (int k = 1; k <= 99; k++) {
            most = Math.max(most, y.pass(1));
            CHECK.due("crowd " + k, x.crowd(k), most);
        }
    }

    /** Both have their first DUE at 1, and wait 1 by what is drawn then. */
    private static void crowdOfTwo() {
        CHECK.due("two LETTERS in one TICK", Check.met("M111000j0j1").crowd(1), 2);
        CHECK.due("nobody there", new CrowdReports().crowd(99), 0);
    }

    private static void atRest() {
        CrowdReports x = new CrowdReports();
        CHECK.due("nobody is there", x.about(9), 0);
        x.join(0);
        CHECK.due("one alone", x.about(9), 0);
        x.join(1);
        CHECK.holds("two that do not KNOW one another", x.about(9) > 0);
        x.turn(0, 1);
        CHECK.due("one never HEARS the other", x.about(9), -9);
        x.undo();
        x.pass(10);
        CHECK.due("two that do", x.about(9), 0);
        x.turn(1, 0);
        x.leave(1);
        CHECK.holds("one that is AWAY is KNOWN still", x.about(9) > 0);
    }

    /** COUNT is 3, so T is 27: one that is AWAY is forgotten 136 TICKS behind its last REPORT. */
    private static void atRestAtTheEdge() {
        CrowdReports x = Check.met("M911000j0j1j29999999");
        CHECK.due("all know all", x.about(9), 0);
        x.turn(1, 0);
        x.leave(1);
        int last = x.heard(0, 1);
        while (x.about(3) < last + 36) {
            x.pass(1);
        }
        CHECK.due("at rest behind 100", x.about(9), -9);
        x.pass(1);
        CHECK.due("at rest behind 99", x.about(9), 99);
        x.pass(1);
        CHECK.due("at rest behind 98", x.about(9), 98);
    }

    private static void jitters() {
        CrowdReports x = new CrowdReports();
        CHECK.due("one time", x.jitter(1, 99), 0);
        CHECK.due("two alike", x.jitter(2, 4242), 0);
        CHECK.due("up", x.jitter(2, 1030), 20);
        CHECK.due("down", x.jitter(2, 3010), 20);
        CHECK.due("a first time of 00", x.jitter(2, 7), 7);
        CHECK.due("15 by 16 is cut", x.jitter(3, 707), 7);
        CHECK.due("16 by 16", x.jitter(3, 808), 7);
        CHECK.due("all 0", x.jitter(6, 0), 0);
        CHECK.due("by tens", x.jitter(6, 102030405060L), 44);
        CHECK.due("the most", x.jitter(6, 990099009900L), 437);
        CHECK.due("all figures 9", x.jitter(6, 999999999999L), 0);
        CHECK.due("n 0", x.jitter(0, 0), -2);
        CHECK.due("n 7", x.jitter(7, 0), -2);
        CHECK.due("row less than 0", x.jitter(3, -1), -2);
        for (int n = 1; n <= 6; n++) {
            long more = (long) Math.pow(100, n);
            CHECK.due("the longest row", x.jitter(n, more - 1), 0);
            CHECK.due("a row that is too long", x.jitter(n, more), -2);
        }
        CHECK.due("the greatest row", x.jitter(6, Long.MAX_VALUE), -2);
        CHECK.due("the least row", x.jitter(6, Long.MIN_VALUE), -2);
    }

    private static void rounds() {
        CrowdReports x = new CrowdReports();
        CHECK.due("all 0", x.round(0, 0, 0), 0);
        CHECK.due("there and back", x.round(100, 40, 30), 30);
        CHECK.due("nothing left", x.round(100, 70, 30), 0);
        CHECK.due("less than 0", x.round(100, 70, 31), -3);
        CHECK.due("the most", x.round(9999, 0, 0), 9999);
        CHECK.due("the least", x.round(0, 9999, 9999), -3);
        CHECK.due("now", x.round(10000, 0, 0), -2);
        CHECK.due("now", x.round(-1, 0, 0), -2);
        CHECK.due("stamp", x.round(9999, -1, 0), -2);
        CHECK.due("stamp", x.round(0, 10000, 0), -2);
        CHECK.due("held", x.round(9999, 0, -1), -2);
        CHECK.due("held", x.round(0, 0, 10000), -2);
        CHECK.due("far out", x.round(Integer.MIN_VALUE, Integer.MAX_VALUE, 2), -2);
    }

    /** By a new object with this MEETING: to look at all takes many of the calls that it has. */
    private static void judged(String text, int n, long row, int want) {
        CrowdReports x = Check.met(text);
        String before = Check.all(x);
        CHECK.due("judge " + n + " " + row, x.judge(n, row), want);
        CHECK.holds("judge changes nothing", before.equals(Check.all(x)));
    }

    private static void judgedAlone() {
        String two = "M111000j0j19";
        judged(two, 1, 102, -9);
        judged(two, 1, 105, -9);
        judged(two, 1, 106, 0);
        judged(two, 1, 101, 0);
        judged(two, 1, 112, 0);
        judged(two, 1, 200, -9);
        judged(two, 1, 202, 0);
        judged(two, 1, 206, 0);
        judged(two, 1, 210, 0);
        judged(two, 1, 301, -9);
        judged(two, 1, 330, -9);
        judged(two, 1, 300, 0);
        judged(two, 1, 331, 0);
        judged(two, 1, 401, -9);
        judged(two, 1, 400, 0);
        judged(two, 1, 402, 0);
        judged(two, 1, 420, -9);
        judged(two, 1, 423, 0);
        judged(two, 1, 460, 0);
        judged(two, 1, 501, -9);
        judged(two, 1, 502, 0);
        judged(two, 1, 500, 0);
        judged(two, 1, 506, 0);
        judged(two, 1, 560, 0);
        judged(two, 1, 602, -9);
        judged(two, 1, 601, 0);
        judged(two, 1, 620, -9);
        judged(two, 1, 621, 0);
        judged(two, 1, 661, 0);
        judged(two, 1, 710, -9);
        judged(two, 1, 711, 0);
        judged(two, 1, 716, 0);
        judged(two, 1, 761, 0);
        judged(two, 1, 0, 0);
        judged(two, 1, 1, 0);
        judged(two, 1, 801, 0);
        judged(two, 1, 999, 0);
    }

    /** TICKS can be also where nobody sends; each row begins with how all is now. */
    private static void judgedByNobody() {
        judged("M111000", 1, 305, -9);
        CrowdReports x = new CrowdReports();
        CHECK.due("join is done", x.judge(2, 102412), 1);
        CHECK.due("in that row alone", x.judge(2, 102421), -9);
        CHECK.due("and not behind it", x.judge(1, 420), -9);
    }

    private static void judgedInRows() {
        String two = "M111000j0j19";
        judged(two, 2, 102102, 1);
        judged(two, 3, 102202102L, -9);
        judged(two, 4, 102202102421L, -9);
        judged(two, 4, 102202102420L, 3);
        judged(two, 4, 102309502612L, 3);
        judged(two, 4, 102309502603L, -9);
        judged(two, 3, 710330501L, 2);
        judged(two, 4, 710710330501L, -9);
        judged(two, 2, 201501, 1);
        judged(two, 2, 201410, -9);
        judged(two, 4, 401401401401L, -9);
        judged(two, 4, 401401401400L, 3);
        judged(two, 4, 401, 0);
        String six = "M911000j0j1j2j3j4j5999999999";
        judged(six, 2, 203432, -9);
        judged(six, 2, 203103, 1);
        judged(six, 2, 203203, 1);
        judged(six, 3, 203330430, -9);
    }

    private static void judgeRefused() {
        String nobody = "M111000";
        judged(nobody, 0, 0, -2);
        judged(nobody, 5, 0, -2);
        judged(nobody, -1, 101, -2);
        judged(nobody, 1, -1, -2);
        judged(nobody, 4, Long.MIN_VALUE, -2);
        judged(nobody, 4, Long.MAX_VALUE, -2);
        for (int n = 1; n <= 4; n++) {
            long more = (long) Math.pow(1000, n);
            judged(nobody, n, more, -2);
            judged(nobody, n, more - 1, 0);
        }
    }

    public static void main(String[] args) {
        aheadByHand();
        aheadIsAsPassed();
        crowdIsAsPassed();
        crowdOfTwo();
        atRest();
        atRestAtTheEdge();
        jitters();
        rounds();
        judgedAlone();
        judgedByNobody();
        judgedInRows();
        judgeRefused();
        CHECK.end();
    }
}

/** Promises 16 to 20, and AT REST: ahead, crowd, jitter, round, judge. */
public final class AskedTest {
    private static final Check CHECK = new Check();

    /** The REPORTS of this MEETING, found by hand in ActsTest, are at 6, 19 and 22. */
    private static void aheadByHand() {
        CrowdReports x = Check.met("M911000j0j1");
        String before = Check.all(x);
        int[] ticks = {0, 5, 6, 18, 19, 21, 22};
        int[] reports = {0, 0, 1, 1, 2, 2, 3};
        for (int i = 0; i < ticks.length; i++) {
            CHECK.due("ahead " + ticks[i], x.ahead(ticks[i], 0), reports[i]);
        }
        CHECK.due("THE LOT now", x.ahead(0, 3), 48742);
        CHECK.due("THE LOT ahead", x.ahead(4, 3), 31223);
        CHECK.due("BYES ahead", x.ahead(99, 1), 0);
        CHECK.due("THERE ahead", x.ahead(99, 2), 3);
        CHECK.due("crowd 5", x.crowd(5), 0);
        CHECK.due("crowd 6", x.crowd(6), 1);
        CHECK.due("at rest", x.about(9), 22);
        CHECK.holds("nothing is changed", before.equals(Check.all(x)));
    }

    private static void aheadIsAsPassed() {
        CrowdReports x = Check.met("M331123j0j1j2j3j4j5999l1l2");
        CHECK.holds("some are LEAVING", x.about(8) != 0);
        int most = 0;
        int firstRest = -9;
        int[] reports = new int[100];
        int[] byes = new int[100];
        int[] there = new int[100];
        int[] lots = new int[100];
        int[] crowds = new int[100];
        CrowdReports y = Check.met("M331123j0j1j2j3j4j5999l1l2");
        for (int k = 0; k <= 99; k++) {
            reports[k] = y.about(5);
            byes[k] = y.about(6);
            there[k] = y.about(7);
            lots[k] = y.about(4);
            crowds[k] = most;
            if (firstRest < 0 && y.about(9) == 0) {
                firstRest = k;
            }
            most = Math.max(most, y.pass(1));
        }
        for (int k = 0; k <= 99; k++) {
            CHECK.due("ahead " + k, x.ahead(k, 0), reports[k]);
            CHECK.due("ahead " + k, x.ahead(k, 1), byes[k]);
            CHECK.due("ahead " + k, x.ahead(k, 2), there[k]);
            CHECK.due("ahead " + k, x.ahead(k, 3), lots[k]);
            CHECK.due("crowd " + k, x.crowd(k), k == 0 ? -2 : crowds[k]);
        }
        CHECK.due("AT REST", x.about(9), firstRest);
    }

    /** Both have their first DUE at 1, and wait 1 by what is drawn then. */
    private static void crowdOfTwo() {
        CHECK.due("two LETTERS in one TICK", Check.met("M111000j0j1").crowd(1), 2);
        CHECK.due("nobody there", new CrowdReports().crowd(99), 0);
    }

    private static void atRest() {
        CrowdReports x = new CrowdReports();
        CHECK.due("nobody is there", x.about(9), 0);
        x.join(0);
        CHECK.due("one alone", x.about(9), 0);
        x.join(1);
        CHECK.holds("two that do not KNOW one another", x.about(9) > 0);
        x.turn(0, 1);
        CHECK.due("one never HEARS the other", x.about(9), -9);
        x.undo();
        x.pass(10);
        CHECK.due("two that do", x.about(9), 0);
        x.turn(1, 0);
        x.leave(1);
        CHECK.holds("one that is AWAY is KNOWN still", x.about(9) > 0);
    }

    /** COUNT is 3, so T is 27: one that is AWAY is forgotten 136 TICKS behind its last REPORT. */
    private static void atRestAtTheEdge() {
        CrowdReports x = Check.met("M911000j0j1j29999999");
        CHECK.due("all know all", x.about(9), 0);
        x.turn(1, 0);
        x.leave(1);
        int last = x.heard(0, 1);
        while (x.about(3) < last + 36) {
            x.pass(1);
        }
        CHECK.due("at rest behind 100", x.about(9), -9);
        x.pass(1);
        CHECK.due("at rest behind 99", x.about(9), 99);
        x.pass(1);
        CHECK.due("at rest behind 98", x.about(9), 98);
    }

    private static void jitters() {
        CrowdReports x = new CrowdReports();
        CHECK.due("one time", x.jitter(1, 99), 0);
        CHECK.due("two alike", x.jitter(2, 4242), 0);
        CHECK.due("up", x.jitter(2, 1030), 20);
        CHECK.due("down", x.jitter(2, 3010), 20);
        CHECK.due("a first time of 00", x.jitter(2, 7), 7);
        CHECK.due("15 by 16 is cut", x.jitter(3, 707), 7);
        CHECK.due("16 by 16", x.jitter(3, 808), 7);
        CHECK.due("all 0", x.jitter(6, 0), 0);
        CHECK.due("by tens", x.jitter(6, 102030405060L), 44);
        CHECK.due("the most", x.jitter(6, 990099009900L), 437);
        CHECK.due("all figures 9", x.jitter(6, 999999999999L), 0);
        CHECK.due("n 0", x.jitter(0, 0), -2);
        CHECK.due("n 7", x.jitter(7, 0), -2);
        CHECK.due("row less than 0", x.jitter(3, -1), -2);
        for (int n = 1; n <= 6; n++) {
            long more = (long) Math.pow(100, n);
            CHECK.due("the longest row", x.jitter(n, more - 1), 0);
            CHECK.due("a row that is too long", x.jitter(n, more), -2);
        }
        CHECK.due("the greatest row", x.jitter(6, Long.MAX_VALUE), -2);
        CHECK.due("the least row", x.jitter(6, Long.MIN_VALUE), -2);
    }

    private static void rounds() {
        CrowdReports x = new CrowdReports();
        CHECK.due("all 0", x.round(0, 0, 0), 0);
        CHECK.due("there and back", x.round(100, 40, 30), 30);
        CHECK.due("nothing left", x.round(100, 70, 30), 0);
        CHECK.due("less than 0", x.round(100, 70, 31), -3);
        CHECK.due("the most", x.round(9999, 0, 0), 9999);
        CHECK.due("the least", x.round(0, 9999, 9999), -3);
        CHECK.due("now", x.round(10000, 0, 0), -2);
        CHECK.due("now", x.round(-1, 0, 0), -2);
        CHECK.due("stamp", x.round(9999, -1, 0), -2);
        CHECK.due("stamp", x.round(0, 10000, 0), -2);
        CHECK.due("held", x.round(9999, 0, -1), -2);
        CHECK.due("held", x.round(0, 0, 10000), -2);
        CHECK.due("far out", x.round(Integer.MIN_VALUE, Integer.MAX_VALUE, 2), -2);
    }

    private static void judged(CrowdReports x, int n, long row, int want) {
        String before = Check.all(x);
        CHECK.due("judge " + n + " " + row, x.judge(n, row), want);
        CHECK.holds("judge changes nothing", before.equals(Check.all(x)));
    }

    private static void judgedAlone() {
        CrowdReports x = Check.met("M111000j0j19");
        judged(x, 1, 102, -9);
        judged(x, 1, 105, -9);
        judged(x, 1, 106, 0);
        judged(x, 1, 101, 0);
        judged(x, 1, 112, 0);
        judged(x, 1, 200, -9);
        judged(x, 1, 202, 0);
        judged(x, 1, 206, 0);
        judged(x, 1, 210, 0);
        judged(x, 1, 301, -9);
        judged(x, 1, 330, -9);
        judged(x, 1, 300, 0);
        judged(x, 1, 331, 0);
        judged(x, 1, 401, -9);
        judged(x, 1, 400, 0);
        judged(x, 1, 402, 0);
        judged(x, 1, 420, -9);
        judged(x, 1, 423, 0);
        judged(x, 1, 460, 0);
        judged(x, 1, 501, -9);
        judged(x, 1, 502, 0);
        judged(x, 1, 500, 0);
        judged(x, 1, 506, 0);
        judged(x, 1, 560, 0);
        judged(x, 1, 602, -9);
        judged(x, 1, 601, 0);
        judged(x, 1, 620, -9);
        judged(x, 1, 621, 0);
        judged(x, 1, 661, 0);
        judged(x, 1, 710, -9);
        judged(x, 1, 711, 0);
        judged(x, 1, 716, 0);
        judged(x, 1, 761, 0);
        judged(x, 1, 0, 0);
        judged(x, 1, 1, 0);
        judged(x, 1, 801, 0);
        judged(x, 1, 999, 0);
    }

    /** TICKS can be also where nobody sends; each row begins with how all is now. */
    private static void judgedByNobody() {
        CrowdReports x = new CrowdReports();
        judged(x, 1, 305, -9);
        CHECK.due("join is done", x.judge(2, 102412), 1);
        CHECK.due("in that row alone", x.judge(2, 102421), -9);
        CHECK.due("and not behind it", x.judge(1, 420), -9);
    }

    private static void judgedInRows() {
        CrowdReports x = Check.met("M111000j0j19");
        judged(x, 2, 102102, 1);
        judged(x, 3, 102202102L, -9);
        judged(x, 4, 102202102421L, -9);
        judged(x, 4, 102202102420L, 3);
        judged(x, 4, 102309502612L, 3);
        judged(x, 4, 102309502603L, -9);
        judged(x, 3, 710330501L, 2);
        judged(x, 4, 710710330501L, -9);
        judged(x, 2, 201501, 1);
        judged(x, 2, 201410, -9);
        judged(x, 4, 401401401401L, -9);
        judged(x, 4, 401401401400L, 3);
        judged(x, 4, 401, 0);
        CrowdReports y = Check.met("M911000j0j1j2j3j4j5999999999");
        judged(y, 2, 203432, -9);
        judged(y, 2, 203103, 1);
        judged(y, 2, 203203, 1);
        judged(y, 3, 203330430, -9);
    }

    private static void judgeRefused() {
        CrowdReports x = new CrowdReports();
        judged(x, 0, 0, -2);
        judged(x, 5, 0, -2);
        judged(x, -1, 101, -2);
        judged(x, 1, -1, -2);
        judged(x, 4, Long.MIN_VALUE, -2);
        judged(x, 4, Long.MAX_VALUE, -2);
        for (int n = 1; n <= 4; n++) {
            long more = (long) Math.pow(1000, n);
            judged(x, n, more, -2);
            judged(x, n, more - 1, 0);
        }
    }

    public static void main(String[] args) {
        aheadByHand();
        aheadIsAsPassed();
        crowdOfTwo();
        atRest();
        atRestAtTheEdge();
        jitters();
        rounds();
        judgedAlone();
        judgedByNobody();
        judgedInRows();
        judgeRefused();
        CHECK.end();
    }
}

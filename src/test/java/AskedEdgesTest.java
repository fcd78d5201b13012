/** The edges of promises 16 to 20, and of AT REST: first and last of each bound, empty and full. */
public final class AskedEdgesTest {
    private static final Check CHECK = new Check();
    private static final String ALL_SIX = "M191000j0j1j2j3j4j5";

    /** T of any COUNT is 1 by SIZE 1 and RATE 9: each of them sends one REPORT in each TICK. */
    private static void aheadToTheLast() {
        for (int k = 0; k <= 99; k++) {
            CrowdReports x = Check.met(ALL_SIX);
            CHECK.due("REPORTS behind " + k, x.ahead(k, 0), 6 * k);
            CHECK.due("BYES", x.ahead(k, 1), 0);
            CHECK.due("THERE", x.ahead(k, 2), 63);
            CrowdReports y = Check.met(ALL_SIX);
            Check.passAll(y, k);
            CHECK.due("THE LOT", x.ahead(k, 3), y.about(4));
            CrowdReports none = new CrowdReports();
            for (int what = 0; what <= 3; what++) {
                CHECK.due("by nobody", none.ahead(k, what), 0);
            }
        }
    }

    /** 0 TICKS ahead all is as it is, BYES that were sent included. */
    private static void aheadOfNothing() {
        CrowdReports x = Check.met("M331123j0j1j2j3j4j5999l1l2999999l0");
        CHECK.due("REPORTS", x.ahead(0, 0), x.about(5));
        CHECK.due("BYES", x.ahead(0, 1), x.about(6));
        CHECK.holds("some BYES", x.about(6) > 0);
        CHECK.due("THERE", x.ahead(0, 2), x.about(7));
        CHECK.due("THE LOT", x.ahead(0, 3), x.about(4));
    }

    private static void crowdToTheLast() {
        for (int k = 1; k <= 99; k++) {
            CHECK.due("crowd of all six in " + k, Check.met(ALL_SIX).crowd(k), 6);
            CHECK.due("crowd of nobody", new CrowdReports().crowd(k), 0);
        }
    }

    /** The last TICK that is asked counts, the one behind it does not. */
    private static void crowdOfTheLastTick() {
        for (int lot = 100; lot < 200; lot++) {
            CrowdReports x = Check.met("M911" + lot + "j0");
            int first = 1;
            while (x.ahead(first, 0) == 0) {
                first++;
            }
            CHECK.due("ahead of the first LETTER", x.crowd(first - 1), 0);
            CHECK.due("with the first LETTER", x.crowd(first), 1);
        }
    }

    /** The TICKS that count are those to come, not those that were. */
    private static void crowdOfTheNextTicks() {
        CrowdReports x = Check.met(ALL_SIX + "9");
        CHECK.due("all six", x.crowd(1), 6);
        for (int m = 0; m < 6; m++) {
            x.leave(m);
        }
        x.pass(30);
        CHECK.due("BYES", x.about(6), 6);
        CHECK.due("nobody is left", x.crowd(99), 0);
    }

    /** BYES are LETTERS too. By the first BYE BEGUN of 3 .. 5 is THE CLOCK (1 times 5 by 6, cut). */
    private static void crowdOfByes() {
        CrowdReports x = Check.met(ALL_SIX + "9");
        CHECK.due("THERE", x.about(7), 63);
        x.leave(0);
        x.leave(1);
        x.leave(2);
        CHECK.due("LEAVING", x.about(8), 7);
        CHECK.due("three BYES, no REPORT", x.crowd(1), 3);
        x.turn(0, 5);
        x.turn(1, 5);
        x.turn(2, 5);
        CHECK.due("three BYES that do not reach 5, its REPORT", x.crowd(1), 4);
        CHECK.due("pass", x.pass(1), 4);
        CHECK.due("BYES", x.about(6), 3);
        CHECK.due("three REPORTS", x.crowd(99), 3);
    }

    private static void atRestByNumbers() {
        CHECK.due("nobody", new CrowdReports().about(9), 0);
        CHECK.due("all six, not yet", Check.met(ALL_SIX).about(9), 1);
        CHECK.due("all six, now", Check.met(ALL_SIX + "1").about(9), 0);
        CHECK.due("one alone", Check.met("M191000j5").about(9), 0);
        CrowdReports x = Check.met(ALL_SIX + "1");
        x.leave(3);
        CHECK.due("one is LEAVING", x.about(9), 1);
        x.turn(3, 0);
        CHECK.due("0 KNOWS it 5 TICKS longer", x.about(9), 6);
        CrowdReports y = Check.met(ALL_SIX);
        y.turn(0, 5);
        CHECK.due("one does never HEAR one", y.about(9), -9);
    }

    /** (J and 8) by 16, cut: 0 up to 7, 1 from 8, 2 from 24, .. 6 from 88. */
    private static void jitterIsCut() {
        CrowdReports x = new CrowdReports();
        for (int gap = 0; gap <= 99; gap++) {
            int want = gap - (gap < 8 ? 0 : gap < 24 ? 1 : gap < 40 ? 2 : gap < 56 ? 3 : gap < 72 ? 4 : gap < 88 ? 5 : 6);
            CHECK.due("up by " + gap, x.jitter(3, gap * 101L), want);
            CHECK.due("down by " + gap, x.jitter(2, gap * 100L), gap);
            CHECK.due("up by " + gap, x.jitter(2, gap), gap);
            CHECK.due("one time", x.jitter(1, gap), 0);
        }
    }

    /** Rows of 1 .. 6 times, from all 0 to all figures 9; the most that JITTER becomes. */
    private static void jitterByLength() {
        CrowdReports x = new CrowdReports();
        long[] most = {0, 99, 192, 279, 361, 437};
        long zigzag = 0;
        long nines = 0;
        for (int n = 1; n <= 6; n++) {
            zigzag = zigzag * 100 + (n % 2 == 1 ? 99 : 0);
            nines = nines * 100 + 99;
            CHECK.due("all 0", x.jitter(n, 0), 0);
            CHECK.due("to and fro", x.jitter(n, zigzag), most[n - 1]);
            CHECK.due("all 9", x.jitter(n, nines), 0);
            CHECK.due("one figure more", x.jitter(n, nines + 1), -2);
            CHECK.due("-1", x.jitter(n, -1), -2);
            CHECK.due("least", x.jitter(n, Long.MIN_VALUE), -2);
            CHECK.due("most", x.jitter(n, Long.MAX_VALUE), -2);
            CHECK.due("the last time alone", x.jitter(n, 1), n == 1 ? 0 : 1);
        }
        for (int n : new int[] {Integer.MIN_VALUE, -1, 0, 7, 8, 9, 10, Integer.MAX_VALUE}) {
            CHECK.due("n " + n, x.jitter(n, 0), -2);
            CHECK.due("n " + n, x.jitter(n, 4242), -2);
        }
    }

    private static void roundBounds() {
        CrowdReports x = new CrowdReports();
        int[] out = {Integer.MIN_VALUE, -10000, -1, 10000, Integer.MAX_VALUE};
        int[] in = {0, 1, 9998, 9999};
        for (int bad : out) {
            for (int a : in) {
                for (int b : in) {
                    CHECK.due("now " + bad, x.round(bad, a, b), -2);
                    CHECK.due("stamp " + bad, x.round(a, bad, b), -2);
                    CHECK.due("held " + bad, x.round(a, b, bad), -2);
                }
            }
        }
        for (int now : in) {
            for (int stamp : in) {
                for (int held : in) {
                    int left = now - stamp - held;
                    CHECK.due("round " + now + " " + stamp + " " + held, x.round(now, stamp, held), left < 0 ? -3 : left);
                }
            }
        }
        CHECK.due("just 0", x.round(9999, 9998, 1), 0);
        CHECK.due("just less", x.round(9999, 9999, 1), -3);
        CHECK.due("least", x.round(0, 9999, 9999), -3);
    }

    private static boolean canBe(CrowdReports x, int doing) {
        int what = doing / 100;
        int a = doing / 10 % 10;
        int b = doing % 10;
        boolean members = a <= 5 && b <= 5;
        switch (what) {
            case 1: return a == 0 && b <= 5 && x.member(b, 0) == 0;
            case 2: return a == 0 && b <= 5 && x.member(b, 0) == 1;
            case 3: return 10 * a + b >= 1 && 10 * a + b <= 30;
            case 4: return a <= 5 && b <= 2 && x.member(a, 0) == b;
            case 5: return members && x.heard(a, b) >= 0;
            case 6: return a <= 5 && x.member(a, 2) == b;
            case 7: return members && a != b;
            default: return false;
        }
    }

    /** Each of the 1000 doings, at the first place and at the last. */
    private static void eachDoing() {
        String[] texts = {"M111000", ALL_SIX + "9l1l4", "M911123j0j1j2j3j4999999999l0l4"};
        for (String text : texts) {
            for (int doing = 0; doing <= 999; doing++) {
                CrowdReports x = Check.met(text);
                boolean can = canBe(x, doing);
                CHECK.due(text + ": judge " + doing, x.judge(1, doing), can ? -9 : 0);
                long behind = 701710702000L + doing;
                CHECK.due(text + ": judge " + behind, x.judge(4, behind), can ? -9 : 3);
            }
        }
        CHECK.due("LEAVING", Check.met(texts[1]).about(8), 18);
        CHECK.due("LEAVING", Check.met(texts[2]).about(8), 17);
    }

    /** Of several that can not be the first counts; rows that are short begin with 000. */
    private static void theFirstPlace() {
        CrowdReports x = new CrowdReports();
        long row = 0;
        for (int n = 1; n <= 4; n++) {
            row = row * 1000 + 301;
            CHECK.due("all can be", x.judge(n, row), -9);
            CHECK.due("0 figures", x.judge(n, 0), 0);
            CHECK.due("the last alone", x.judge(n, 301), n == 1 ? -9 : 0);
            CHECK.due("the last not", x.judge(n, row - 1), n - 1);
            CHECK.due("all figures 9", x.judge(n, (long) Math.pow(1000, n) - 1), 0);
            CHECK.due("one figure more", x.judge(n, (long) Math.pow(1000, n)), -2);
            CHECK.due("-1", x.judge(n, -1), -2);
            CHECK.due("least", x.judge(n, Long.MIN_VALUE), -2);
            CHECK.due("most", x.judge(n, Long.MAX_VALUE), -2);
        }
        CHECK.due("two that can not", x.judge(4, 301999301999L), 1);
        for (int n : new int[] {Integer.MIN_VALUE, -1, 0, 5, 6, Integer.MAX_VALUE}) {
            CHECK.due("n " + n, x.judge(n, 301), -2);
        }
    }

    /** 1, 2, 3, 7 are done: what is behind them is judged by that. */
    private static void doneAhead() {
        CrowdReports x = new CrowdReports();
        CHECK.due("joined, then joined", x.judge(2, 100100), 1);
        CHECK.due("joined, then left", x.judge(2, 105205), -9);
        CHECK.due("left, then left", x.judge(3, 105205205), 2);
        CHECK.due("joined, left, joined, COUNT 1", x.judge(4, 105205105651L), -9);
        CHECK.due("COUNT of one AWAY", x.judge(1, 650), -9);
        CHECK.due("two that HEAR one another", x.judge(4, 100105330505L), -9);
        CHECK.due("not at once", x.judge(3, 100105505), 2);
        CHECK.due("the WAY is shut", x.judge(4, 100105750505L), 3);
        CrowdReports two = Check.met("M111000j0j5");
        CHECK.due("shut, 30 TICKS", two.judge(3, 750330505), 2);
        CHECK.due("the other WAY", two.judge(3, 705330505), -9);
        CHECK.due("shut and open again", two.judge(4, 750750330505L), -9);
    }

    public static void main(String[] args) {
        aheadToTheLast();
        aheadOfNothing();
        crowdToTheLast();
        crowdOfTheLastTick();
        crowdOfTheNextTicks();
        crowdOfByes();
        atRestByNumbers();
        jitterIsCut();
        jitterByLength();
        roundBounds();
        eachDoing();
        theFirstPlace();
        doneAhead();
        CHECK.end();
    }
}

/** Promises 24 to 27: share, chance, seed, drawn. */
public final class SharesTest {
    private static final Check CHECK = new Check();

    private static void share(CrowdReports x, int m, int above, int below) {
        CHECK.due("share of " + m + ", above", x.share(m, true), above);
        CHECK.due("share of " + m + ", below", x.share(m, false), below);
    }

    private static void chance(CrowdReports x, int v, int tenths, int above, int below) {
        CHECK.due("chance " + v + " " + tenths + ", above", x.chance(v, tenths, true), above);
        CHECK.due("chance " + v + " " + tenths + ", below", x.chance(v, tenths, false), below);
    }

    private static int lettersNext(CrowdReports x, int ticks) {
        return x.ahead(ticks, 0) + x.ahead(ticks, 1) - x.ahead(0, 0) - x.ahead(0, 1);
    }

    /** T of COUNT 1 is 1, so one alone sends in each TICK, whatever is drawn. */
    private static void shareOfOne() {
        CrowdReports x = Check.met("M111000j3");
        share(x, 3, 30, 1);
        share(x, 0, 0, 1);
        share(x, 5, 0, 1);
    }

    /** Each alone sends 30, so both have a half of what both send. */
    private static void sharesOfTwo() {
        CrowdReports x = Check.met("M111000j1j4");
        String before = Check.all(x);
        int both = lettersNext(x, 30);
        boolean even = both % 2 == 0;
        share(x, 1, even ? both / 2 : both, even ? 1 : 2);
        share(x, 4, even ? both / 2 : both, even ? 1 : 2);
        share(x, 0, 0, 1);
        CHECK.holds("share changes nothing", before.equals(Check.all(x)));
    }

    /** One that is AWAY, but known, makes the one that KNOWS it more seldom. */
    private static void shareLessThanNone() {
        CrowdReports x = Check.met("M111000j0j19");
        x.turn(1, 0);
        x.leave(1);
        CHECK.due("0 KNOWS 1", x.member(0, 1), 2);
        int less = lettersNext(x, 30) - 30;
        CHECK.holds("less LETTERS", less < 0);
        boolean even = less % 2 == 0;
        share(x, 1, even ? less / 2 : less, even ? 1 : 2);
        CHECK.due("a member that is AWAY and not known", x.share(2, true), 0);
    }

    private static void sharesSumUp() {
        CrowdReports x = Check.met("M331123j0j1j2j3j4j5999l1l2");
        double sum = 0;
        for (int m = 0; m < 6; m++) {
            sum += (double) x.share(m, true) / x.share(m, false);
        }
        CHECK.holds("the shares are all that is sent", Math.abs(sum - lettersNext(x, 30)) < 1e-9);
    }

    private static void shareRefused() {
        CrowdReports x = new CrowdReports();
        CHECK.due("share 6", x.share(6, true), -1);
        CHECK.due("share -1", x.share(-1, false), -1);
        CHECK.due("share far out", x.share(Integer.MAX_VALUE, false), -1);
    }

    private static void chances() {
        CrowdReports x = Check.met("M111000j2");
        String before = Check.all(x);
        chance(x, 0, 3, 1, 1);
        chance(x, 1, 3, 7, 10);
        chance(x, 20, 3, 7, 10);
        chance(x, 21, 3, 0, 1);
        chance(x, 99, 5, 0, 1);
        chance(x, 1, 5, 1, 2);
        chance(x, 1, 0, 1, 1);
        chance(x, 1, 10, 0, 1);
        chance(x, 0, 10, 1, 1);
        CHECK.holds("chance changes nothing", before.equals(Check.all(x)));
        CrowdReports two = Check.met("M111000j2j5");
        chance(two, 1, 3, 91, 100);
        chance(two, 1, 5, 3, 4);
        CHECK.holds("both together send less than each alone", lettersNext(two, 20) < 20);
        chance(two, 20, 9, 9, 50);
        CrowdReports six = Check.met("M111000j0j1j2j3j4j5");
        chance(six, 1, 9, 468559, 1000000);
        chance(six, 1, 1, 999999, 1000000);
    }

    /** One that is AWAY and known makes a difference too, as long as it has come. */
    private static void chanceOfAKnownOne() {
        CrowdReports x = Check.met("M111000j0j19");
        x.turn(1, 0);
        x.leave(1);
        int with = lettersNext(x, 20);
        CHECK.holds("more seldom", with < 20);
        chance(x, 20, 5, 1, 4);
        chance(x, with, 5, 1, 2);
        chance(x, 20, 10, 0, 1);
        chance(x, 20, 0, 0, 1);
    }

    private static void chanceRefused() {
        CrowdReports x = new CrowdReports();
        CHECK.due("v 100", x.chance(100, 5, true), -2);
        CHECK.due("v -1", x.chance(-1, 5, true), -2);
        CHECK.due("x 11", x.chance(1, 11, true), -2);
        CHECK.due("x -1", x.chance(1, -1, false), -2);
    }

    private static void seeds() {
        CrowdReports x = new CrowdReports();
        CHECK.due("first", x.seed(Long.MIN_VALUE), 0);
        CHECK.due("second", x.seed(-1), Long.MIN_VALUE);
        CHECK.due("third", x.seed(0), -1);
        CHECK.due("drawn by nobody", x.drawn(1) >= 0 ? 1 : 0, 1);
        CHECK.due("THE SEED goes on by one", x.seed(0), 1442695040888963407L);
        x.drawn(2);
        CHECK.due("THE SEED goes on by two", x.seed(5), 1442695040888963407L * 6364136223846793006L);
        CHECK.due("m 0", x.drawn(0), -2);
        CHECK.due("m 41", x.drawn(41), -2);
        CHECK.due("m far out", x.drawn(Integer.MIN_VALUE), -2);
        CHECK.due("refused: THE SEED stays", x.seed(0), 5);
    }

    /** 0 alone is there and sends in each TICK: one BYE if it leaves, two REPORTS if one joins. */
    private static void drawnOnce() {
        int left = 0;
        int joined = 0;
        for (long seed = 0; seed < 3000; seed++) {
            int v = (int) ((seed * 6364136223846793005L + 1442695040888963407L) >>> 33);
            boolean acts = v % 8 == 0;
            boolean joins = acts && v / 8 % 6 != 0;
            CrowdReports x = Check.met("M111000j09");
            x.seed(seed);
            int got = x.drawn(1);
            // The one that joined HEARS 0 in the same TICK, so its REPORT may wait by COUNT 2.
            CHECK.holds("drawn by " + seed, joins ? got == 1 || got == 2 : got == 1);
            left += acts && !joins ? 1 : 0;
            joined += joins && got == 2 ? 1 : 0;
        }
        CHECK.holds("some left, some joined and sent", left > 0 && joined > 0);
    }

    private static void drawnChangesNothing() {
        CrowdReports x = Check.met("M111000j09");
        String before = Check.kept(x);
        for (long seed = 0; seed < 100; seed++) {
            x.seed(seed);
            x.drawn(40);
        }
        CHECK.holds("nothing changes but THE SEED", before.equals(Check.kept(x)));
        CHECK.due("no ACT", x.about(10), 0);
    }

    /** What is drawn is what the same joins and leaves and TICKS are as ACTS. */
    private static void drawnAsActs() {
        for (long seed = -20; seed < 20; seed++) {
            CrowdReports x = Check.met("M221007j0j1j2j3j4999");
            CrowdReports y = Check.met("M221007j0j1j2j3j4999");
            x.seed(seed);
            int got = x.drawn(40);
            long row = seed;
            int before = y.about(5) + y.about(6);
            for (int i = 0; i < 40; i++) {
                row = row * 6364136223846793005L + 1442695040888963407L;
                int v = (int) (row >>> 33);
                int who = v / 8 % 6;
                if (v % 8 == 0 && y.join(who) < 0) {
                    y.leave(who);
                }
                y.pass(1);
            }
            CHECK.due("drawn 40 by " + seed, got, y.about(5) + y.about(6) - before);
            CHECK.due("THE SEED behind it", x.seed(0), row);
        }
    }

    public static void main(String[] args) {
        shareOfOne();
        sharesOfTwo();
        shareLessThanNone();
        sharesSumUp();
        shareRefused();
        chances();
        chanceOfAKnownOne();
        chanceRefused();
        seeds();
        drawnOnce();
        drawnChangesNothing();
        drawnAsActs();
        CHECK.end();
    }
}

/** The edges of promises 21 to 29: SEEN, WHICH, SHARE, CHANCE, THE SEED, DRAWN, SLOTS. */
public final class SharesEdgesTest {
    private static final Check CHECK = new Check();
    private static final String ALL_SIX = "M191000j0j1j2j3j4j5";
    private static final long TIMES = 6364136223846793005L, MORE = 1442695040888963407L;

    // ---- SEEN

    private static void which(CrowdReports x, int k, int n, int want) {
        x.unsee();
        CHECK.due("see " + n + " in " + k, x.see(k, n), 1);
        CHECK.due("which by " + n + " in " + k, x.which(), want);
    }

    /** One alone sends one LETTER in each TICK by any RATE, SIZE and MIN being 1. */
    private static void seenInEachBound() {
        for (int k = 0; k <= 60; k++) {
            CrowdReports x = Check.met("M111000j0");
            which(x, k, k, 1022);
            which(x, k, k + 1, 0);
            if (k > 0) {
                which(x, k, k - 1, 0);
            }
        }
        CrowdReports nobody = new CrowdReports();
        which(nobody, 60, 0, 1022);
        which(nobody, 60, 99, 0);
        which(nobody, 0, 99, 0);
    }

    /** Three send three in each TICK where T of COUNT 3 is 1: by the RATES 3 .. 9; 99 in 33. */
    private static void seenTheMost() {
        CrowdReports x = Check.met("M111000j0j1j2");
        which(x, 33, 99, 1016);
        which(x, 33, 98, 0);
        which(x, 32, 96, 1016);
    }

    /** The lowest RATE alone is bit 1, the highest alone bit 9; RATE as it is now is not asked. */
    private static void firstAndLastRate() {
        CrowdReports x = Check.met("M911000j0");
        which(x, 4, 0, 2);
        which(x, 6, 3, 512);
        for (int rate = 1; rate <= 9; rate++) {
            x.set(1, rate);
            CHECK.due("RATE " + rate, x.which(), 512);
        }
        CHECK.due("nothing SEEN: all", unseen(x).which(), 1022);
    }

    private static CrowdReports unseen(CrowdReports x) {
        x.unsee();
        return x;
    }

    /** Never more than 6, and each of the six counts. */
    private static void sixSeen() {
        for (int wrong = 0; wrong <= 6; wrong++) {
            CrowdReports x = Check.met("M111000j0");
            CHECK.due("none at first", x.about(11), 0);
            for (int i = 1; i <= 6; i++) {
                CHECK.due("see", x.see(10 * i, i == wrong ? 0 : 10 * i), i);
                CHECK.due("SEEN", x.about(11), i);
                CHECK.due("which", x.which(), wrong >= 1 && wrong <= i ? 0 : 1022);
            }
            CHECK.due("a seventh", x.see(0, 1), -4);
            CHECK.due("it does not count", x.which(), wrong == 0 ? 1022 : 0);
            CHECK.due("unsee", x.unsee(), 6);
            CHECK.due("unsee nothing", x.unsee(), 0);
            CHECK.due("none", x.about(11), 0);
            CHECK.due("see anew", x.see(0, 0), 1);
            CHECK.due("which anew", x.which(), 1022);
        }
    }

    // ---- SHARE, CHANCE

    private static void share(CrowdReports x, int m, int above, int below) {
        CHECK.due("share of " + m + ", above", x.share(m, true), above);
        CHECK.due("share of " + m + ", below", x.share(m, false), below);
    }

    private static void chance(CrowdReports x, int v, int tenths, int above, int below) {
        CHECK.due("chance of " + v + " by " + tenths + ", above", x.chance(v, tenths, true), above);
        CHECK.due("chance of " + v + " by " + tenths + ", below", x.chance(v, tenths, false), below);
    }

    /** Nobody, one and all six: each sends 30 in 30 TICKS, whoever has come. */
    private static void sharesFromNoneToAll() {
        for (int m = 0; m < 6; m++) {
            share(new CrowdReports(), m, 0, 1);
            share(Check.met(ALL_SIX), m, 30, 1);
            CrowdReports x = new CrowdReports();
            x.join(m);
            for (int o = 0; o < 6; o++) {
                share(x, o, o == m ? 30 : 0, 1);
            }
        }
    }

    /** T of COUNT 1 is 1, of 2 is 2 and 3: 0 KNOWS one that is AWAY, and sends less by it. */
    private static void shareLessThanNothing() {
        CrowdReports x = Check.met("M111000j0j19");
        x.turn(1, 0);
        x.leave(1);
        int less = x.ahead(30, 0) - x.about(5) - 30;
        CHECK.holds("less than 0", less < 0);
        int halves = less % 2 == 0 ? 1 : 2;
        share(x, 1, less * halves / 2, halves);
        share(x, 0, (30 + 30 + less) * halves / 2, halves);
    }

    /** 20 TICKS, 20 LETTERS of each that has come: v or more by v / 20 (up) of them. */
    private static void chancesByNumber() {
        CrowdReports x = Check.met(ALL_SIX);
        int[] most = {0, 20, 40, 60, 80, 99};
        int[] above = {1, 63, 57, 21, 11, 7};
        int[] below = {1, 64, 64, 32, 32, 64};
        for (int i = 0; i < most.length; i++) {
            chance(x, most[i], 5, above[i], below[i]);
            if (i < 5) {
                chance(x, most[i] + 1, 5, above[i + 1], below[i + 1]);
            }
        }
    }

    /** x from 0 (all as it is) to 10 (all are AWAY) tenths. */
    private static void chancesByTenths() {
        CrowdReports x = Check.met(ALL_SIX);
        int[] above = {1, 999999, 15624, 999271, 15561, 63, 14896, 882351, 11529, 468559, 0};
        int[] below = {1, 1000000, 15625, 1000000, 15625, 64, 15625, 1000000, 15625, 1000000, 1};
        for (int tenths = 0; tenths <= 10; tenths++) {
            chance(x, 0, tenths, 1, 1);
            long none = Math.round(Math.pow(tenths, 6));
            CHECK.due("in full", (1000000 - none) * below[tenths], 1000000L * above[tenths]);
            chance(x, 1, tenths, above[tenths], below[tenths]);
        }
        chance(x, 99, 0, 1, 1);
        chance(x, 99, 10, 0, 1);
        for (int tenths = 0; tenths <= 10; tenths++) {
            chance(new CrowdReports(), 0, tenths, 1, 1);
            chance(new CrowdReports(), 1, tenths, 0, 1);
            chance(new CrowdReports(), 99, tenths, 0, 1);
        }
    }

    // ---- THE SEED, DRAWN

    /** The SEED from which the next x is a wanted one: TIMES turned round, by 64 bits. */
    private static long seedFor(long wanted) {
        long turned = TIMES;
        for (int i = 0; i < 6; i++) {
            turned *= 2 - TIMES * turned;
        }
        return (wanted - MORE) * turned;
    }

    private static void seedOfAnyBits() {
        CrowdReports x = new CrowdReports();
        long was = 0;
        long[] seeds = {Long.MAX_VALUE, Long.MIN_VALUE, -1, 1, 0, 1L << 33, (1L << 33) - 1, 1L << 32};
        for (long seed : seeds) {
            CHECK.due("seed", x.seed(seed), was);
            was = seed;
        }
    }

    /** THE SEED wraps: from any x just one SEED leads to it, both ends of a long included. */
    private static void seedWraps() {
        long[] wanted = {0, 1, -1, Long.MAX_VALUE, Long.MIN_VALUE, MORE, TIMES};
        for (long to : wanted) {
            CrowdReports x = new CrowdReports();
            x.seed(seedFor(to));
            x.drawn(1);
            CHECK.due("THE SEED", x.seed(0), to);
            x.seed(seedFor(seedFor(to)));
            x.drawn(2);
            CHECK.due("THE SEED", x.seed(0), to);
        }
        CrowdReports x = new CrowdReports();
        long seed = 0;
        for (int m = 1; m <= 40; m++) {
            x.seed(0);
            x.drawn(m);
            seed = seed * TIMES + MORE;
            CHECK.due("THE SEED behind " + m, x.seed(0), seed);
        }
    }

    /** By SIZE 9 one that is THERE does not send in its first TICK: a LETTER is its BYE. */
    private static void drawnMember(int v) {
        for (int m = 0; m < 6; m++) {
            for (long low : new long[] {0, (1L << 33) - 1}) {
                CrowdReports x = Check.met("M911000j" + m);
                x.seed(seedFor(((long) v << 33) + low));
                boolean leaves = v % 8 == 0 && v / 8 % 6 == m;
                CHECK.due("v " + v + ", " + m + " is THERE", x.drawn(1), leaves ? 1 : 0);
            }
        }
    }

    private static void drawnMembers() {
        for (int v = 0; v <= 120; v++) {
            drawnMember(v);
        }
        // 31 bits are left, so v is never less than 0, also where x is.
        for (int v = Integer.MAX_VALUE - 60; v > 0; v++) {
            drawnMember(v);
        }
        for (int bit = 8; bit <= 30; bit++) {
            drawnMember(1 << bit);
        }
    }

    /** One that is AWAY JOINS, and sends in the TICK behind it, T being 1. */
    private static void drawnJoins() {
        for (int v = 0; v < 48; v++) {
            CrowdReports x = new CrowdReports();
            x.seed(seedFor((long) v << 33));
            CHECK.due("v " + v, x.drawn(1), v % 8 == 0 ? 1 : 0);
            CHECK.due("nobody JOINED for good", x.about(7), 0);
            CHECK.due("THE CLOCK", x.about(3), 0);
        }
    }

    /** One that is LEAVING neither JOINS nor LEAVES. */
    private static void drawnOfOneLeaving() {
        CrowdReports x = Check.met("M919000j0j1j2j3j499999999");
        x.leave(3);
        CHECK.due("LEAVING", x.about(8), 8);
        int letters = x.ahead(1, 0) + x.ahead(1, 1) - x.about(5) - x.about(6);
        x.seed(seedFor(24L << 33));
        CHECK.due("3 is drawn", x.drawn(1), letters);
        x.seed(seedFor(1L << 33));
        CHECK.due("none is drawn", x.drawn(1), letters);
    }

    /** m from 1 to 40 TICKS: one alone that sends in each of them, if none is drawn to act. */
    private static void drawnByLength() {
        for (int m = 1; m <= 40; m++) {
            long seed = quietSeed(m);
            CrowdReports x = Check.met("M111000j0");
            x.seed(seed);
            CHECK.due("drawn " + m, x.drawn(m), m);
        }
    }

    /** A SEED by which no v of the first m is left 0 by 8. */
    private static long quietSeed(int m) {
        for (long seed = 0; seed < 1000000; seed++) {
            long at = seed;
            int quiet = 0;
            while (quiet < m) {
                at = at * TIMES + MORE;
                if ((at >>> 33) % 8 == 0) {
                    break;
                }
                quiet++;
            }
            if (quiet == m) {
                return seed;
            }
        }
        throw new IllegalStateException("no quiet SEED for " + m);
    }

    // ---- SLOTS

    /** Both SLOTS by themselves: not kept, kept, kept anew; at THE CLOCK 0 too. */
    private static void slots() {
        for (int slot = 0; slot <= 1; slot++) {
            CrowdReports x = new CrowdReports();
            CHECK.due("not kept", x.again(slot), -3);
            CHECK.due("keep", x.keep(slot), 0);
            CHECK.due("the other one is not", x.again(1 - slot), -3);
            x.pass(30);
            CHECK.due("again", x.again(slot), 0);
            CHECK.due("THE CLOCK", x.about(3), 0);
            x.pass(7);
            CHECK.due("keep the other", x.keep(1 - slot), 7);
            x.pass(1);
            CHECK.due("keep anew", x.keep(slot), 8);
            CHECK.due("again the other", x.again(1 - slot), 7);
            CHECK.due("again what is new", x.again(slot), 8);
            CHECK.due("and again", x.again(slot), 8);
        }
    }

    /** Kept: MEMBERS with all they have, WAYS, SIZE, RATE, MIN, THE LOT, THE CLOCK, REPORTS, BYES. */
    private static void allIsKept() {
        CrowdReports x = Check.met("M919123j0j1j2j3j4999999999l4l0");
        x.set(1, 3);
        x.turn(0, 1);
        x.turn(5, 4);
        String was = Check.kept(x);
        CHECK.due("LEAVING", x.about(8), 17);
        x.keep(1);
        Check.write(x, "M111000");
        x.set(0, 1);
        x.set(1, 9);
        x.set(2, 1);
        for (int m = 0; m < 5; m++) {
            x.turn(m, 5);
            x.pass(30);
            x.leave(m);
        }
        x.join(5);
        CHECK.due("ACTS", x.about(10), 14);
        x.again(1);
        CHECK.holds("all is as it was", was.equals(Check.kept(x)));
        CHECK.due("no ACTS", x.about(10), 0);
        CHECK.due("undo", x.undo(), -3);
        CHECK.due("THE TEXT is not kept", x.about(12), 7);
        x.pass(1);
        CHECK.due("an ACT behind it", x.undo(), 0);
        CHECK.holds("undone to what was kept", was.equals(Check.kept(x)));
    }

    public static void main(String[] args) {
        seenInEachBound();
        seenTheMost();
        firstAndLastRate();
        sixSeen();
        sharesFromNoneToAll();
        shareLessThanNothing();
        chancesByNumber();
        chancesByTenths();
        seedOfAnyBits();
        seedWraps();
        drawnMembers();
        drawnJoins();
        drawnOfOneLeaving();
        drawnByLength();
        slots();
        allIsKept();
        CHECK.end();
    }
}

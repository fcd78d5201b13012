/** The edges of who is told what: ways, leaving at once or later, GOERS, BYES, and forgetting. */
public final class ByeEdgesTest {
    private static final Check CHECK = new Check();
    private static final int[] WAITS_OF_9 = {4, 6, 9, 11, 13};

    private static int waitOf9(int lot) {
        return WAITS_OF_9[lot / 16 % 5];
    }

    /** 0 alone is THERE and KNOWS 1 .. known, which are AWAY: their BYES did not come to it. */
    private static CrowdReports alone(String lot, int known) {
        String text = "M911" + lot + "j0";
        for (int m = 1; m <= known; m++) {
            text += "j" + m;
        }
        CrowdReports x = Check.met(text);
        for (int m = 1; m <= known; m++) {
            for (int o = 0; o <= known; o++) {
                if (o != m) {
                    x.turn(o, m);
                }
            }
        }
        int all = (2 << known) - 2;
        while (x.member(0, 1) != all) {
            x.pass(1);
        }
        for (int m = 1; m <= known; m++) {
            x.turn(m, 0);
            CHECK.due("it leaves at once", x.leave(m), 0);
        }
        CHECK.due("0 alone is THERE", x.about(7), 1);
        CHECK.due("0 KNOWS them still", x.member(0, 1), all);
        return x;
    }

    /** A COUNT of 3 or less leaves at once, without a DRAW; 4 or more waits, by a WAIT of 1. */
    private static void leavesByCount() {
        for (int known = 0; known <= 5; known++) {
            CrowdReports x = alone("000", known);
            int lot = x.about(4);
            int clock = x.about(3);
            int byes = x.about(6);
            CHECK.due("COUNT", x.member(0, 2), known + 1);
            boolean atOnce = known <= 2;
            int wait = waitOf9(Check.nextLot(lot));
            CHECK.due("leave by COUNT " + (known + 1), x.leave(0), atOnce ? 0 : clock + wait);
            CHECK.due("DRAWS", x.about(4), atOnce ? lot : Check.nextLot(lot));
            CHECK.due("BYES", x.about(6), atOnce ? byes + 1 : byes);
            int[] away = {0, 0, 0, 0, 0, 0};
            int[] leaving = {2, (2 << known) - 2, known + 1, clock, clock + wait, 1};
            for (int what = 0; what <= 5; what++) {
                CHECK.due("member 0 " + what, x.member(0, what), (atOnce ? away : leaving)[what]);
            }
            CHECK.due("THERE", x.about(7), 0);
            CHECK.due("LEAVING", x.about(8), atOnce ? 0 : 1);
        }
    }

    /** DUE of one LEAVING likewise: a WAIT up to THE CLOCK sends; no second WAIT behind a BYE. */
    private static void leavingComesDue() {
        int equal = 0;
        for (int lot = 100; lot < 300; lot++) {
            CrowdReports x = alone(Integer.toString(lot), 3);
            int clock = x.about(3);
            int due = x.leave(0);
            int drawn = x.about(4);
            int byes = x.about(6);
            CHECK.due("nothing ahead of DUE", x.pass(due - clock - 1), 0);
            CHECK.due("no DRAW ahead of DUE", x.about(4), drawn);
            int wait = waitOf9(Check.nextLot(drawn));
            boolean sends = clock + wait <= due;
            equal += clock + wait == due ? 1 : 0;
            CHECK.due("LETTERS at DUE", x.pass(1), sends ? 1 : 0);
            CHECK.due("one DRAW at DUE", x.about(4), Check.nextLot(drawn));
            CHECK.due("BYES", x.about(6), sends ? byes + 1 : byes);
            CHECK.due("what it is", x.member(0, 0), sends ? 0 : 2);
            CHECK.due("KNOWS", x.member(0, 1), sends ? 0 : 14);
            CHECK.due("BEGUN", x.member(0, 3), sends ? 0 : clock);
            CHECK.due("DUE", x.member(0, 4), sends ? 0 : clock + wait);
            CHECK.due("GOERS", x.member(0, 5), sends ? 0 : 1);
        }
        CHECK.holds("a WAIT that is just THE CLOCK", equal > 0);
    }

    /** GOERS: 1, and each BYE that was HEARD since, also of the same one and of one not known. */
    private static void goers() {
        CrowdReports x = alone("000", 3);
        int begun = x.about(3);
        int due = x.leave(0);
        for (int n = 1; n <= 9; n++) {
            x.join(4);
            CHECK.due("4 leaves", x.leave(4), 0);
            CHECK.due("GOERS", x.member(0, 5), n + 1);
            CHECK.due("BEGUN stays", x.member(0, 3), begun);
            CHECK.due("DUE stays", x.member(0, 4), due);
        }
        x.turn(4, 0);
        x.join(4);
        x.leave(4);
        CHECK.due("a BYE that does not reach it", x.member(0, 5), 10);
        int lot = Check.nextLot(x.about(4));
        CHECK.due("to DUE", x.pass(due - begun), 0);
        CHECK.due("a WAIT of 10 GOERS", x.member(0, 4), begun + 90 * (2 + lot / 16 % 5) / 4);
        CHECK.due("LEAVING still", x.about(8), 1);
    }

    /** GOERS are undone, kept and gone on from like all else of a MEMBER. */
    private static void goersAreUndoneAndKept() {
        CrowdReports x = alone("000", 3);
        x.keep(0);
        x.leave(0);
        x.keep(1);
        x.join(4);
        x.leave(4);
        CHECK.due("GOERS", x.member(0, 5), 2);
        x.undo();
        CHECK.due("GOERS, the BYE undone", x.member(0, 5), 1);
        x.undo();
        x.undo();
        CHECK.due("GOERS, LEAVING undone", x.member(0, 5), 0);
        x.again(1);
        CHECK.due("GOERS that were kept", x.member(0, 5), 1);
        x.again(0);
        CHECK.due("none that were kept", x.member(0, 5), 0);
    }

    /** By the BYE of one that it KNOWS one LEAVING forgets it; BEGUN and DUE stay. */
    private static void leavingHearsOneItKnows() {
        CrowdReports x = alone("000", 3);
        x.turn(1, 0);
        x.join(1);
        int begun = x.about(3);
        int due = x.leave(0);
        x.leave(1);
        CHECK.due("KNOWS", x.member(0, 1), 12);
        CHECK.due("COUNT", x.member(0, 2), 3);
        CHECK.due("GOERS", x.member(0, 5), 2);
        CHECK.due("BEGUN", x.member(0, 3), begun);
        CHECK.due("DUE", x.member(0, 4), due);
    }

    /** One that is THERE has no GOERS, whatever it HEARS. */
    private static void noGoers() {
        CrowdReports x = alone("000", 3);
        x.join(4);
        x.leave(4);
        CHECK.due("GOERS of one THERE", x.member(0, 5), 0);
        x.leave(0);
        CHECK.due("GOERS begin with 1", x.member(0, 5), 1);
    }

    /** Each tick forgets by T of COUNT as it is ahead of that: 5 times T is not yet too long. */
    private static void forgetsByTime() {
        CrowdReports x = alone("000", 5);
        Check.passAll(x, 210);
        int clock = x.about(3);
        int[] heard = new int[6];
        int knows = 62;
        for (int o = 1; o <= 5; o++) {
            heard[o] = x.heard(0, o);
        }
        int changes = 0;
        for (int i = 0; i < 90; i++) {
            clock++;
            int longest = 5 * 9 * (1 + Integer.bitCount(knows));
            int before = knows;
            for (int o = 1; o <= 5; o++) {
                if (clock - heard[o] > longest) {
                    knows &= ~(1 << o);
                }
            }
            changes += before == knows ? 0 : 1;
            x.pass(1);
            CHECK.due("KNOWS at " + clock, x.member(0, 1), knows);
        }
        CHECK.due("all are forgotten", knows, 0);
        CHECK.holds("not all in one TICK", changes >= 2);
    }

    /** T is 5 (of COUNT 2, SIZE 5, RATE 2): known 25 TICKS behind, forgotten at the 26th. */
    private static void forgetsAtTheEdge() {
        CrowdReports x = alone("000", 1);
        x.set(0, 5);
        x.set(1, 2);
        int heard = x.heard(0, 1);
        CHECK.holds("not yet that long", x.about(3) <= heard + 24);
        while (x.about(3) < heard + 24) {
            x.pass(1);
        }
        x.pass(1);
        CHECK.due("25 TICKS ago", x.heard(0, 1), heard);
        CHECK.due("COUNT", x.member(0, 2), 2);
        x.pass(1);
        CHECK.due("26 TICKS ago", x.heard(0, 1), -9);
        CHECK.due("COUNT", x.member(0, 2), 1);
        x.undo();
        CHECK.due("undone", x.heard(0, 1), heard);
    }

    /** T is 1: each forgets each other one 6 TICKS behind its last REPORT, not at the 5th. */
    private static void eachForgetsEach() {
        for (int m = 0; m < 6; m++) {
            for (int o = 0; o < 6; o++) {
                if (m == o) {
                    continue;
                }
                CrowdReports x = Check.met("M191000j" + m + "j" + o + "9");
                CHECK.due("heard", x.heard(m, o), 9);
                x.turn(o, m);
                x.leave(o);
                CHECK.due("KNOWS", x.member(m, 1), 1 << o);
                x.pass(5);
                CHECK.due("5 TICKS ago", x.heard(m, o), 9);
                x.pass(1);
                CHECK.due("6 TICKS ago", x.heard(m, o), -9);
                CHECK.due("KNOWS none", x.member(m, 1), 0);
            }
        }
    }

    /** One that is LEAVING forgets none by time, where one that is THERE does. */
    private static void leavingForgetsNone() {
        for (int leaves = 0; leaves <= 1; leaves++) {
            CrowdReports x = alone("000", 4);
            x.pass(20);
            int due = leaves == 1 ? x.leave(0) : x.about(3) + 4;
            x.set(0, 1);
            x.set(1, 9);
            CHECK.holds("some TICKS to go", due > x.about(3) + 3);
            while (x.about(3) < due - 1) {
                x.pass(1);
                CHECK.due("KNOWS", x.member(0, 1), leaves == 1 ? 30 : 0);
            }
        }
    }

    /** 0 .. talkers - 1 know one another and 5; 5 KNOWS none, so it leaves at once. */
    private static CrowdReports talk(int talkers, int ticks) {
        String text = "M911000";
        for (int m = 0; m < talkers; m++) {
            text += "j" + m;
        }
        CrowdReports x = Check.met(text + "j5");
        for (int m = 0; m < talkers; m++) {
            x.turn(m, 5);
        }
        Check.passAll(x, ticks);
        return x;
    }

    private static int[][] all(CrowdReports x) {
        int[][] told = new int[6][6];
        for (int m = 0; m < 6; m++) {
            for (int what = 0; what <= 5; what++) {
                told[m][what] = x.member(m, what);
            }
        }
        return told;
    }

    /** DUE and BEGUN come nearer by COUNT, cut; of one that did not know the sender they stay. */
    private static void byesBringNearer() {
        boolean[] met = new boolean[7];
        int justDue = 0;
        int justBegun = 0;
        for (int talkers = 1; talkers <= 5; talkers++) {
            for (int ticks = 0; ticks < 120; ticks++) {
                CrowdReports x = talk(talkers, ticks);
                int[][] was = all(x);
                int clock = x.about(3);
                CHECK.due("5 leaves", x.leave(5), 0);
                for (int m = 0; m < talkers; m++) {
                    boolean knew = (was[m][1] & 32) != 0;
                    int count = was[m][2];
                    int left = Math.max(0, was[m][4] - clock);
                    int gone = clock - was[m][3];
                    int due = knew ? clock + left * (count - 1) / count : was[m][4];
                    int begun = knew ? clock - gone * (count - 1) / count : was[m][3];
                    CHECK.due("KNOWS", x.member(m, 1), was[m][1] & ~32);
                    CHECK.due("COUNT", x.member(m, 2), knew ? count - 1 : count);
                    CHECK.due("DUE", x.member(m, 4), due);
                    CHECK.due("BEGUN", x.member(m, 3), begun);
                    met[count] |= knew;
                    justDue += knew && left == 1 ? 1 : 0;
                    justBegun += knew && gone == 0 ? 1 : 0;
                }
            }
        }
        for (int count = 2; count <= 6; count++) {
            CHECK.holds("a BYE by COUNT " + count, met[count]);
        }
        CHECK.holds("DUE was in 1 TICK", justDue > 0);
        CHECK.holds("BEGUN was THE CLOCK", justBegun > 0);
    }

    /** A BYE by which DUE becomes THE CLOCK itself: it comes due in the next TICK, behind its time. */
    private static void dueAtOnce() {
        int met = 0;
        for (int ticks = 0; ticks < 120; ticks++) {
            CrowdReports x = talk(1, ticks);
            x.leave(5);
            int clock = x.about(3);
            int begun = x.member(0, 3);
            if (x.member(0, 4) != clock) {
                continue;
            }
            met++;
            int first = Check.nextLot(x.about(4));
            boolean sends = begun + waitOf9(first) <= clock + 1;
            CHECK.due("sent", x.pass(1), sends ? 1 : 0);
            int due = sends ? clock + 1 + waitOf9(Check.nextLot(first)) : begun + waitOf9(first);
            CHECK.due("DUE", x.member(0, 4), due);
        }
        CHECK.holds("DUE became THE CLOCK", met > 0);
    }

    /** Two BYES at the same time: DUE less THE CLOCK is 0 by the first, and stays so by the second. */
    private static void dueIsNeverBehindTheClock() {
        int met = 0;
        for (int ticks = 0; ticks < 120; ticks++) {
            CrowdReports x = Check.met("M911000j0j4j5");
            for (int m : new int[] {4, 5}) {
                x.turn(0, m);
                x.turn(9 - m, m);
            }
            Check.passAll(x, ticks);
            x.leave(5);
            boolean knew = (x.member(0, 1) & 16) != 0;
            int left = x.member(0, 4) - x.about(3);
            x.leave(4);
            if (knew && left <= 1) {
                met++;
                CHECK.due("DUE by the second BYE", x.member(0, 4), x.about(3));
            }
        }
        CHECK.holds("so near", met > 0);
    }

    /** T of any COUNT is 1: all five that are THERE send in each TICK; 5 is AWAY. */
    private static void reportsByWays() {
        for (int from = 0; from < 5; from++) {
            for (int to = 0; to < 5; to++) {
                if (from == to) {
                    continue;
                }
                CrowdReports x = Check.met("M191000j0j1j2j3j4");
                x.turn(from, to);
                CHECK.due("LETTERS, the one that does not come too", x.pass(1), 5);
                for (int m = 0; m < 6; m++) {
                    for (int o = 0; o < 6; o++) {
                        boolean comes = m < 5 && o < 5 && m != o && !(o == from && m == to);
                        CHECK.due("heard " + m + " " + o, x.heard(m, o), comes ? 1 : -9);
                    }
                }
            }
        }
    }

    private static void eachWay() {
        for (int from = 0; from < 6; from++) {
            for (int to = 0; to < 6; to++) {
                if (from == to) {
                    continue;
                }
                CrowdReports x = new CrowdReports();
                CHECK.due("turn", x.turn(from, to), 0);
                for (int m = 0; m < 6; m++) {
                    for (int o = 0; o < 6; o++) {
                        int want = m == o ? -2 : m == from && o == to ? 0 : 1;
                        CHECK.due("way " + m + " " + o, x.way(m, o), want);
                    }
                }
                CHECK.due("turn again", x.turn(from, to), 1);
                CHECK.due("way", x.way(from, to), 1);
            }
        }
    }

    /** The last one that leaves tells nobody; the BYE is counted all the same. */
    private static void byeToNobody() {
        for (int m = 0; m < 6; m++) {
            CrowdReports x = new CrowdReports();
            x.join(m);
            CHECK.due("leave", x.leave(m), 0);
            CHECK.due("BYES", x.about(6), 1);
            CHECK.due("THERE", x.about(7), 0);
            CHECK.due("at rest", x.about(9), 0);
        }
    }

    public static void main(String[] args) {
        leavesByCount();
        leavingComesDue();
        goers();
        goersAreUndoneAndKept();
        leavingHearsOneItKnows();
        noGoers();
        forgetsByTime();
        forgetsAtTheEdge();
        eachForgetsEach();
        leavingForgetsNone();
        byesBringNearer();
        dueAtOnce();
        dueIsNeverBehindTheClock();
        reportsByWays();
        eachWay();
        byeToNobody();
        CHECK.end();
    }
}

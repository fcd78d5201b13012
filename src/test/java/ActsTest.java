/** Promises 6 to 15: about, member, heard, way; join, leave, pass, turn, set, undo. */
public final class ActsTest {
    private static final Check CHECK = new Check();

    private static void member(CrowdReports x, int m, int... want) {
        for (int what = 0; what < want.length; what++) {
            CHECK.due("member " + m + " " + what + " at " + x.about(3), x.member(m, what), want[what]);
        }
    }

    /**
     * By hand. What is drawn from THE LOT 0 on: 0 1 1 3 0 4 1 3 2 0 3 4; T of COUNT 1 is 9, of 2
     * is 18, so a WAIT is 9 (18) times 2 .. 6 by 4.
     */
    private static void timesByHand() {
        CrowdReports x = Check.met("M911000");
        CHECK.due("join 0", x.join(0), 4);
        CHECK.due("join 1", x.join(1), 6);
        CHECK.due("THE LOT behind two DRAWS", x.about(4), 48742);
        CHECK.due("pass 3", x.pass(3), 0);
        CHECK.due("no DRAW yet", x.about(4), 48742);
        CHECK.due("pass 1", x.pass(1), 0);
        CHECK.due("a DRAW without a REPORT", x.about(4), 31223);
        member(x, 0, 1, 0, 1, 0, 6, 0);
        CHECK.due("to 6", x.pass(2), 1);
        member(x, 0, 1, 2, 2, 0, 11, 0);
        member(x, 1, 1, 0, 1, 6, 19, 0);
        CHECK.due("heard", x.heard(0, 1), 6);
        CHECK.due("heard not", x.heard(1, 0), -9);
        CHECK.due("to 11", x.pass(5), 0);
        CHECK.due("looked at again by COUNT 2", x.member(0, 4), 13);
        CHECK.due("to 13", x.pass(2), 0);
        CHECK.due("looked at again", x.member(0, 4), 22);
        CHECK.due("to 19", x.pass(6), 1);
        CHECK.due("heard anew", x.heard(0, 1), 19);
        member(x, 1, 1, 0, 1, 19, 23, 0);
        CHECK.due("not at rest yet", x.about(9), 3);
        CHECK.due("to 22", x.pass(3), 1);
        member(x, 0, 1, 2, 2, 22, 49, 0);
        member(x, 1, 1, 1, 2, 19, 23, 0);
        CHECK.due("REPORTS", x.about(5), 3);
        CHECK.due("BYES", x.about(6), 0);
        CHECK.due("THERE", x.about(7), 3);
        CHECK.due("LEAVING", x.about(8), 0);
        CHECK.due("at rest", x.about(9), 0);
        CHECK.due("ACTS", x.about(10), 9);
    }

    /** T is rounded up, MIN at least; a WAIT is cut, 1 at least. What is drawn first: by THE LOT. */
    private static void firstDue(String head, int want) {
        CHECK.due("first DUE of " + head, Check.met(head).join(2), want);
    }

    private static void waits() {
        firstDue("M111000", 1);
        firstDue("M111500", 1);
        firstDue("M911000", 4);
        firstDue("M911007", 6);
        firstDue("M911001", 11);
        firstDue("M911500", 13);
        firstDue("M921500", 7);
        firstDue("M321500", 3);
        firstDue("M131500", 1);
        firstDue("M192500", 3);
        firstDue("M119500", 13);
        firstDue("M559001", 11);
        firstDue("M519000", 4);
        firstDue("M915000", 4);
        CrowdReports x = Check.met("M9110009");
        CHECK.due("DUE is told from THE CLOCK on", x.join(3), 13);
        member(x, 3, 1, 0, 1, 9, 13, 0);
    }

    private static void refusedActs() {
        CrowdReports x = new CrowdReports();
        CHECK.due("leave one AWAY", x.leave(3), -3);
        x.join(3);
        CHECK.due("join one THERE", x.join(3), -3);
        CHECK.due("ACTS", x.about(10), 1);
    }

    private static void byeAtOnce() {
        CrowdReports x = Check.met("M911000j0j1j299999");
        CHECK.due("COUNT 3", x.member(1, 2), 3);
        int clock = x.about(3);
        int lot = x.about(4);
        int due = x.member(0, 4);
        int begun = x.member(0, 3);
        CHECK.due("leave", x.leave(1), 0);
        member(x, 1, 0, 0, 0, 0, 0, 0);
        CHECK.due("no DRAW", x.about(4), lot);
        CHECK.due("BYES", x.about(6), 1);
        CHECK.due("forgotten", x.heard(0, 1), -9);
        CHECK.due("KNOWS", x.member(0, 1), 4);
        CHECK.due("DUE is nearer", x.member(0, 4), clock + (due - clock) * 2 / 3);
        CHECK.due("BEGUN is nearer", x.member(0, 3), clock - (clock - begun) * 2 / 3);
        CHECK.due("joins again", x.join(1), x.member(1, 4));
        member(x, 1, 1, 0, 1, clock);
    }

    private static void byeByCount() {
        CHECK.due("COUNT 3: at once", Check.met("M911000j0j1j299999").leave(0), 0);
        CrowdReports x = Check.met("M911000j0j1j2j39999999");
        CHECK.due("COUNT 4", x.member(0, 2), 4);
        CHECK.holds("COUNT 4: it waits", x.leave(0) > x.about(3));
        CHECK.due("LEAVING", x.about(8), 1);
        CHECK.due("no BYE", x.about(6), 0);
    }

    private static void byeThatDoesNotReach() {
        CrowdReports x = Check.met("M911000j0j1j299999");
        x.turn(1, 0);
        int due = x.member(0, 4);
        int begun = x.member(0, 3);
        x.leave(1);
        CHECK.due("0 KNOWS it still", x.member(0, 1), 6);
        CHECK.due("DUE stays", x.member(0, 4), due);
        CHECK.due("BEGUN stays", x.member(0, 3), begun);
        CHECK.due("2 does not", x.member(2, 1), 1);
        CHECK.due("never at rest soon", x.about(9) != 0 ? 1 : 0, 1);
    }

    /** One that does not KNOW the sender of a BYE goes on as it was. */
    private static void byeOfAStranger() {
        CrowdReports x = Check.met("M911000j0j1");
        int due = x.member(0, 4);
        x.leave(1);
        CHECK.due("DUE stays", x.member(0, 4), due);
        CHECK.due("COUNT", x.member(0, 2), 1);
    }

    private static void leaving() {
        CrowdReports x = Check.met("M911000j0j1j2j3j4j5999999999");
        CHECK.due("COUNT of all", x.member(2, 2), 6);
        int clock = x.about(3);
        int due = x.leave(2);
        CHECK.due("DUE", x.member(2, 4), due);
        CHECK.holds("DUE is behind THE CLOCK", due > clock);
        member(x, 2, 2, 59, 6, clock, due, 1);
        CHECK.due("LEAVING", x.about(8), 4);
        CHECK.due("THERE", x.about(7), 59);
        CHECK.due("no BYE yet", x.about(6), 0);
        CHECK.due("leave one LEAVING", x.leave(2), -3);
        CHECK.due("join one LEAVING", x.join(2), -3);
        x.leave(4);
        CHECK.due("LEAVING", x.about(8), 20);
        x.turn(2, 5);
        int lotBefore = x.about(4);
        for (int i = 0; i < 40 && x.about(6) == 0; i++) {
            x.pass(1);
        }
        CHECK.holds("a DRAW by the BYE", x.about(4) != lotBefore);
        int gone = x.member(2, 0) == 0 ? 2 : 4;
        int other = 6 - gone;
        CHECK.due("one went", x.about(6), 1);
        CHECK.due("GOERS of the other", x.member(other, 5), 2);
        CHECK.due("it does not KNOW it any more", x.member(other, 1) >> gone & 1, 0);
        member(x, gone, 0, 0, 0, 0, 0, 0);
        CHECK.due("5 KNOWS it if no letter came", x.member(5, 1) >> gone & 1, gone == 2 ? 1 : 0);
    }

    /** A LEAVING one HEARS REPORTS, but keeps BEGUN and DUE by a BYE, and forgets none by time. */
    private static void leavingHears() {
        CrowdReports x = Check.met("M919000j0j1j2j3j499999999");
        x.leave(0);
        x.leave(1);
        x.set(0, 1);
        x.set(2, 1);
        x.join(5);
        boolean heardNew = false;
        for (int i = 0; i < 6; i++) {
            int due = x.member(0, 4);
            int begun = x.member(0, 3);
            x.pass(1);
            heardNew |= x.heard(0, 5) >= 0;
            if (x.member(0, 0) == 2 && due > x.about(3)) {
                CHECK.due("DUE stays", x.member(0, 4), due);
                CHECK.due("BEGUN stays", x.member(0, 3), begun);
            }
        }
        CHECK.holds("a new one is HEARD by one LEAVING", heardNew || x.member(0, 0) == 0);
    }

    private static void forgetting() {
        CrowdReports x = Check.met("M111000j0j199");
        CHECK.due("0 KNOWS 1", x.member(0, 1), 2);
        x.turn(1, 0);
        int last = x.heard(0, 1);
        while (x.about(3) < last + 10) {
            x.pass(1);
        }
        CHECK.due("5 times T ago: still known", x.heard(0, 1), last);
        int due = x.member(0, 4);
        x.pass(1);
        CHECK.due("more than 5 times T ago: forgotten", x.heard(0, 1), -9);
        CHECK.due("COUNT", x.member(0, 2), 1);
        CHECK.holds("DUE is not moved by forgetting", x.member(0, 4) >= due);
        CHECK.due("1 KNOWS 0 still", x.member(1, 1), 1);
    }

    private static void ways() {
        CrowdReports x = new CrowdReports();
        CHECK.due("turn", x.turn(4, 2), 0);
        CHECK.due("way shut", x.way(4, 2), 0);
        CHECK.due("the other way", x.way(2, 4), 1);
        CHECK.due("another way", x.way(4, 1), 1);
        CHECK.due("turn again", x.turn(4, 2), 1);
        CHECK.due("way open", x.way(4, 2), 1);
        CHECK.due("ACTS", x.about(10), 2);
        x.turn(0, 1);
        x.join(0);
        x.join(1);
        x.pass(9);
        CHECK.due("0 is not heard by 1", x.heard(1, 0), -9);
        CHECK.holds("1 is heard by 0", x.heard(0, 1) > 0);
        CHECK.due("heard of itself", x.heard(0, 0), -9);
    }

    private static void sizes() {
        CrowdReports x = Check.met("M345000");
        CHECK.due("set SIZE", x.set(0, 9), 3);
        CHECK.due("set RATE", x.set(1, 1), 4);
        CHECK.due("set MIN", x.set(2, 2), 5);
        CHECK.due("SIZE", x.about(0), 9);
        CHECK.due("RATE", x.about(1), 1);
        CHECK.due("MIN", x.about(2), 2);
        CHECK.due("set the same", x.set(0, 9), 9);
        CHECK.due("ACTS", x.about(10), 4);
    }

    private static int firstAway(CrowdReports x) {
        int m = 0;
        while (m < 6 && x.member(m, 0) != 0) {
            m++;
        }
        return m;
    }

    /** The first so many of 20 ACTS of all kinds, in a new object. */
    private static CrowdReports acted(int acts) {
        CrowdReports x = Check.met("M221007j0j1j2j3999");
        for (int i = 0; i < acts; i++) {
            switch (i % 5) {
                case 0 -> x.pass(1 + i);
                case 1 -> x.turn(i % 6, (i + 1) % 6);
                case 2 -> x.set(i % 3, 1 + i % 9);
                case 3 -> x.join(firstAway(x));
                default -> x.leave(i / 5);
            }
            CHECK.due("ACTS", x.about(10), Math.min(14, i + 1));
        }
        return x;
    }

    private static void undone() {
        for (int undone = 1; undone <= 14; undone++) {
            CrowdReports x = acted(20);
            for (int i = 1; i <= undone; i++) {
                CHECK.due("undo", x.undo(), 14 - i);
            }
            CHECK.holds("all is as it was ahead of the last " + undone,
                Check.kept(x).equals(Check.kept(acted(20 - undone))));
        }
    }

    private static void notUndone() {
        CrowdReports x = acted(20);
        Check.write(x, "M1");
        x.see(4, 4);
        x.see(5, 5);
        x.seed(12);
        for (int i = 13; i >= 0; i--) {
            CHECK.due("undo", x.undo(), i);
        }
        CHECK.due("no more", x.undo(), -3);
        CHECK.holds("as it was", Check.kept(x).equals(Check.kept(acted(6))));
        CHECK.due("SEEN is not undone", x.about(11), 2);
        CHECK.due("THE TEXT is not undone", x.about(12), 2);
        CHECK.due("THE SEED is not undone", x.seed(0), 12);
        x.join(5);
        CHECK.due("an ACT behind undo", x.about(10), 1);
    }

    private static void passes() {
        CrowdReports x = new CrowdReports();
        CHECK.due("pass 30, nobody there", x.pass(30), 0);
        CHECK.due("THE CLOCK", x.about(3), 30);
        CHECK.due("ACTS", x.about(10), 1);
        x.join(0);
        CHECK.due("one REPORT each TICK: T is 1", x.pass(1), 1);
        CHECK.due("REPORTS", x.about(5), 1);
    }

    public static void main(String[] args) {
        timesByHand();
        waits();
        refusedActs();
        byeAtOnce();
        byeByCount();
        byeThatDoesNotReach();
        byeOfAStranger();
        leaving();
        leavingHears();
        forgetting();
        ways();
        sizes();
        undone();
        notUndone();
        passes();
        CHECK.end();
    }
}

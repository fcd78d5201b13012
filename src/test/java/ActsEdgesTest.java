/** The edges of promises 6 to 15: the first and last of each bound, empty and full, 14 ACTS. */
public final class ActsEdgesTest {
    private static final Check CHECK = new Check();
    private static final int ACTS_MOST = 14;

    /** about: what goes from 0 to 12, member: from 0 to 5. */
    private static void whatIsTold() {
        CrowdReports x = Check.met("M987654j0");
        int[] about = {9, 8, 7, 0, Check.nextLot(654), 0, 0, 1, 0, 0, 0, 0, 9};
        for (int what = 0; what <= 12; what++) {
            CHECK.due("about " + what, x.about(what), about[what]);
        }
        int[] member = {1, 0, 1, 0, x.member(0, 4), 0};
        for (int what = 0; what <= 5; what++) {
            CHECK.due("member 0 " + what, x.member(0, what), member[what]);
            CHECK.due("member 5 " + what, x.member(5, what), 0);
        }
    }

    /** Bits go from 1 (MEMBER 0) to 32 (MEMBER 5), none (0) to all (63). */
    private static void bitsOfMembers() {
        CrowdReports x = new CrowdReports();
        CHECK.due("none is THERE", x.about(7), 0);
        for (int m = 0; m < 6; m++) {
            CrowdReports one = new CrowdReports();
            one.join(m);
            CHECK.due("THERE", one.about(7), 1 << m);
            x.join(m);
            CHECK.due("THERE", x.about(7), (2 << m) - 1);
        }
        CrowdReports all = Check.met("M919000j0j1j2j3j4j599999999999");
        for (int m = 0; m < 6; m++) {
            CHECK.due("KNOWS all others", all.member(m, 1), 63 & ~(1 << m));
            CHECK.due("COUNT of all", all.member(m, 2), 6);
            all.leave(m);
            CHECK.due("LEAVING", all.about(8), (2 << m) - 1);
            CHECK.due("THERE", all.about(7), 63 & ~((2 << m) - 1));
        }
        CHECK.due("none goes at once", all.about(6), 0);
    }

    /** AWAY, THERE, AWAY again: as new each time, whatever it knew. */
    private static void joinsAnew() {
        CrowdReports x = Check.met("M191000j0j1j29");
        CHECK.due("KNOWS", x.member(1, 1), 5);
        x.leave(1);
        CHECK.due("heard by one AWAY", x.heard(1, 0), -9);
        int due = x.join(1);
        CHECK.due("DUE", x.member(1, 4), due);
        CHECK.due("KNOWS none", x.member(1, 1), 0);
        CHECK.due("COUNT", x.member(1, 2), 1);
        CHECK.due("BEGUN", x.member(1, 3), x.about(3));
        CHECK.due("heard", x.heard(1, 0), -9);
        x.pass(1);
        CHECK.due("heard anew", x.heard(1, 0), x.about(3));
    }

    /** JOINS sends nothing; the six of them are six DRAWS. */
    private static void joinsSendNothing() {
        CrowdReports x = new CrowdReports();
        int lot = 0;
        for (int m = 5; m >= 0; m--) {
            lot = Check.nextLot(lot);
            CHECK.due("DUE", x.join(m), 1);
            CHECK.due("THE LOT", x.about(4), lot);
        }
        CHECK.due("REPORTS", x.about(5), 0);
        CHECK.due("a seventh", x.join(0), -3);
    }

    private static void ticksOneToThirty() {
        for (int k = 1; k <= 30; k++) {
            CrowdReports x = new CrowdReports();
            CHECK.due("pass " + k + " by nobody", x.pass(k), 0);
            CHECK.due("THE CLOCK", x.about(3), k);
            CHECK.due("one ACT", x.about(10), 1);
            CrowdReports all = Check.met("M191000j0j1j2j3j4j5");
            CHECK.due("all six in each TICK", all.pass(k), 6 * k);
            CHECK.due("REPORTS", all.about(5), 6 * k);
            CHECK.due("undo", all.undo(), 0);
            CHECK.due("THE CLOCK again", all.about(3), 0);
        }
    }

    private static void setOneToNine() {
        for (int what = 0; what <= 2; what++) {
            CrowdReports x = new CrowdReports();
            int was = 1;
            for (int v : new int[] {1, 9, 2, 8, 3, 7, 4, 6, 5}) {
                CHECK.due("set", x.set(what, v), was);
                was = v;
                for (int w = 0; w <= 2; w++) {
                    CHECK.due("about", x.about(w), w == what ? v : 1);
                }
            }
            CHECK.due("ACTS, the same value too", x.about(10), 9);
            CHECK.due("DRAWS", x.about(4), 0);
        }
    }

    /** An ACT of each kind, one behind the other, each of them not refused. */
    private static int act(CrowdReports x, int i) {
        switch (i % 6) {
            case 0: return x.join(i / 6);
            case 1: return x.pass(30);
            case 2: return x.turn(i / 6, 5);
            case 3: return x.set(i / 6 % 3, 2 + i % 8);
            case 4: return x.pass(1);
            default: return x.leave(i / 6);
        }
    }

    private static CrowdReports acted(int acts) {
        CrowdReports x = Check.met("M221007");
        for (int i = 0; i < acts; i++) {
            CHECK.holds("ACT " + i + " is taken", act(x, i) >= 0);
        }
        return x;
    }

    /** Never more than 14 ACTS: the first is forgotten ahead of the next. */
    private static void fourteenActs() {
        for (int acts = 0; acts <= 30; acts++) {
            int kept = Math.min(ACTS_MOST, acts);
            CHECK.due("ACTS of " + acts, acted(acts).about(10), kept);
            for (int undone = 1; undone <= kept; undone++) {
                CrowdReports x = acted(acts);
                int left = -1;
                for (int i = 0; i < undone; i++) {
                    left = x.undo();
                }
                CHECK.due("left", left, kept - undone);
                CHECK.holds("as it was ahead of them", Check.kept(x).equals(Check.kept(acted(acts - undone))));
                CHECK.due("ACTS", x.about(10), kept - undone);
            }
            CrowdReports x = acted(acts);
            for (int i = 0; i < kept; i++) {
                x.undo();
            }
            CHECK.due("one more", x.undo(), -3);
            CHECK.holds("refused", Check.kept(x).equals(Check.kept(acted(acts - kept))));
        }
    }

    /** Undone and done again, at the edge of 14: the row does not lose or mix what it has. */
    private static void undoneAndDoneAgain() {
        CrowdReports x = acted(20);
        for (int i = 0; i < 5; i++) {
            x.undo();
        }
        for (int i = 15; i < 26; i++) {
            act(x, i);
            CHECK.due("ACTS", x.about(10), Math.min(ACTS_MOST, i - 15 + 10));
        }
        for (int i = 25; i >= 12; i--) {
            CHECK.due("undo", x.undo(), i - 12);
        }
        CHECK.holds("as it was", Check.kept(x).equals(Check.kept(acted(12))));
        CHECK.due("none left", x.undo(), -3);
    }

    /** THE TEXT, SEEN, THE SEED and what was kept are not undone. */
    private static void notUndone() {
        CrowdReports x = acted(14);
        x.see(60, 99);
        x.seed(Long.MIN_VALUE);
        x.write('j');
        x.keep(0);
        int clock = x.about(3);
        for (int i = 13; i >= 0; i--) {
            CHECK.due("undo", x.undo(), i);
        }
        CHECK.due("SEEN", x.about(11), 1);
        CHECK.due("letters", x.about(12), 8);
        CHECK.due("THE SEED", x.seed(0), Long.MIN_VALUE);
        CHECK.due("what was kept", x.again(0), clock);
    }

    /** What is written, wiped, seen, kept, asked or drawn is no ACT. */
    private static void noActs() {
        CrowdReports x = acted(3);
        x.write('x');
        x.wipe();
        x.see(0, 0);
        x.unsee();
        x.seed(4);
        x.drawn(40);
        x.keep(0);
        x.keep(1);
        x.judge(4, 330701330102L);
        CHECK.due("ACTS", x.about(10), 3);
    }

    public static void main(String[] args) {
        whatIsTold();
        bitsOfMembers();
        joinsAnew();
        joinsSendNothing();
        ticksOneToThirty();
        setOneToNine();
        fourteenActs();
        undoneAndDoneAgain();
        notUndone();
        noActs();
        CHECK.end();
    }
}

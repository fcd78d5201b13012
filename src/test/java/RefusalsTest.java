/**
 * Section 5, call by call: the first value on each side that is refused, of several refusals the
 * first that the call names, and that what is refused changes nothing, ACTS and SLOTS included.
 */
public final class RefusalsTest {
    private static final Check CHECK = new Check();
    private static final int UNKNOWN = -1, BAD = -2, LATE = -3, FULL = -4;
    private static final int LEAST = Integer.MIN_VALUE, MOST = Integer.MAX_VALUE;
    private static final int[] NO_MEMBER = {-1, 6, LEAST, MOST};
    private static final int[] NO_SLOT = {-1, 2, LEAST, MOST};

    /** More than 14 ACTS; 1 is LEAVING, 5 is AWAY, the others are THERE; slot 1 is not kept. */
    private static CrowdReports busy() {
        CrowdReports x = Check.met("M911123j0j1j2j3j499999999");
        x.keep(0);
        x.turn(2, 3);
        x.turn(4, 0);
        x.set(0, 7);
        x.set(1, 2);
        x.set(2, 3);
        for (int i = 0; i < 11; i++) {
            x.pass(1 + i);
        }
        x.leave(1);
        x.see(7, 3);
        x.seed(31);
        Check.write(x, "M11");
        return x;
    }

    /** 60 letters, 6 SEEN, both slots kept, 14 ACTS, all six THERE. */
    private static CrowdReports full() {
        CrowdReports x = Check.met("M331077j0j1j2j3j4j5");
        x.keep(0);
        for (int i = 0; i < 14; i++) {
            x.pass(2);
        }
        x.keep(1);
        for (int i = 1; i <= 6; i++) {
            x.see(i, i);
        }
        x.seed(-5);
        Check.write(x, "M331077" + "x".repeat(53));
        return x;
    }

    private static void statesAreAsSaid() {
        CrowdReports x = busy();
        CHECK.due("busy: THERE", x.about(7), 29);
        CHECK.due("busy: LEAVING", x.about(8), 2);
        CHECK.due("busy: ACTS", x.about(10), 14);
        CHECK.due("busy: slot 1", x.again(1), LATE);
        CrowdReports y = full();
        CHECK.due("full: THERE", y.about(7), 63);
        CHECK.due("full: ACTS", y.about(10), 14);
        CHECK.due("full: SEEN", y.about(11), 6);
        CHECK.due("full: letters", y.about(12), 60);
    }

    private static void letters(Refused in) {
        in.due("write -1", x -> x.write(-1), BAD);
        in.due("write 256", x -> x.write(256), BAD);
        in.due("write least", x -> x.write(LEAST), BAD);
        in.due("write most", x -> x.write(MOST), BAD);
        in.due("meeting", x -> x.meeting(), LATE);
    }

    private static void told(Refused in) {
        in.due("about -1", x -> x.about(-1), BAD);
        in.due("about 13", x -> x.about(13), BAD);
        in.due("about least", x -> x.about(LEAST), BAD);
        in.due("about most", x -> x.about(MOST), BAD);
        for (int m : NO_MEMBER) {
            in.due("member " + m, x -> x.member(m, 0), UNKNOWN);
            in.due("member " + m + ", what bad too", x -> x.member(m, 6), UNKNOWN);
            in.due("heard from " + m, x -> x.heard(m, 5), UNKNOWN);
            in.due("heard of " + m, x -> x.heard(0, m), UNKNOWN);
            in.due("heard of itself, " + m, x -> x.heard(m, m), UNKNOWN);
            in.due("way from " + m, x -> x.way(m, 5), UNKNOWN);
            in.due("way to " + m, x -> x.way(0, m), UNKNOWN);
            in.due("way, both " + m, x -> x.way(m, m), UNKNOWN);
        }
        for (int who = 0; who < 6; who++) {
            int m = who;
            in.due("member what -1", x -> x.member(m, -1), BAD);
            in.due("member what 6", x -> x.member(m, 6), BAD);
            in.due("way to itself", x -> x.way(m, m), BAD);
        }
        in.due("member what least", x -> x.member(0, LEAST), BAD);
        in.due("member what most", x -> x.member(5, MOST), BAD);
    }

    private static void acts(Refused in) {
        for (int m : NO_MEMBER) {
            in.due("join " + m, x -> x.join(m), UNKNOWN);
            in.due("leave " + m, x -> x.leave(m), UNKNOWN);
            in.due("turn from " + m, x -> x.turn(m, 5), UNKNOWN);
            in.due("turn to " + m, x -> x.turn(0, m), UNKNOWN);
            in.due("turn, both " + m, x -> x.turn(m, m), UNKNOWN);
        }
        for (int who = 0; who < 6; who++) {
            int m = who;
            in.due("turn to itself", x -> x.turn(m, m), BAD);
        }
        for (int k : new int[] {0, 31, -1, LEAST, MOST}) {
            in.due("pass " + k, x -> x.pass(k), BAD);
        }
        for (int what = 0; what <= 2; what++) {
            int w = what;
            in.due("set to 0", x -> x.set(w, 0), BAD);
            in.due("set to 10", x -> x.set(w, 10), BAD);
            in.due("set to least", x -> x.set(w, LEAST), BAD);
            in.due("set to most", x -> x.set(w, MOST), BAD);
        }
        in.due("set -1", x -> x.set(-1, 1), BAD);
        in.due("set 3", x -> x.set(3, 9), BAD);
        in.due("set 3 to 10", x -> x.set(3, 10), BAD);
    }

    private static void asked(Refused in) {
        for (int k : new int[] {-1, 100, LEAST, MOST}) {
            in.due("ahead " + k, x -> x.ahead(k, 0), BAD);
            in.due("crowd " + k, x -> x.crowd(k), BAD);
        }
        in.due("crowd 0", x -> x.crowd(0), BAD);
        in.due("ahead what -1", x -> x.ahead(0, -1), BAD);
        in.due("ahead what 4", x -> x.ahead(99, 4), BAD);
        in.due("jitter of 0", x -> x.jitter(0, 0), BAD);
        in.due("jitter of 7", x -> x.jitter(7, 0), BAD);
        in.due("jitter of -1", x -> x.jitter(1, -1), BAD);
        in.due("jitter of three figures", x -> x.jitter(1, 100), BAD);
        in.due("jitter of 13 figures", x -> x.jitter(6, 1000000000000L), BAD);
        in.due("round now", x -> x.round(10000, 0, 0), BAD);
        in.due("round stamp", x -> x.round(9999, -1, 0), BAD);
        in.due("round held", x -> x.round(9999, 0, 10000), BAD);
        in.due("round less than 0", x -> x.round(5, 4, 2), LATE);
        in.due("round less than 0, bad too", x -> x.round(5, 10, 10000), BAD);
        in.due("judge of 0", x -> x.judge(0, 0), BAD);
        in.due("judge of 5", x -> x.judge(5, 0), BAD);
        in.due("judge of -1", x -> x.judge(1, -1), BAD);
        in.due("judge of four figures", x -> x.judge(1, 1000), BAD);
        in.due("judge of 13 figures", x -> x.judge(4, 1000000000000L), BAD);
    }

    private static void seenAndDrawn(Refused in) {
        for (int v : new int[] {-1, LEAST, MOST}) {
            in.due("see in " + v, x -> x.see(v, 0), BAD);
            in.due("see " + v, x -> x.see(0, v), BAD);
            in.due("chance of " + v, x -> x.chance(v, 1, true), BAD);
            in.due("chance by " + v, x -> x.chance(1, v, false), BAD);
            in.due("drawn " + v, x -> x.drawn(v), BAD);
        }
        in.due("see in 61", x -> x.see(61, 0), BAD);
        in.due("see 100", x -> x.see(60, 100), BAD);
        in.due("chance of 100", x -> x.chance(100, 0, true), BAD);
        in.due("chance by 11", x -> x.chance(0, 11, true), BAD);
        in.due("drawn 0", x -> x.drawn(0), BAD);
        in.due("drawn 41", x -> x.drawn(41), BAD);
        for (int m : NO_MEMBER) {
            in.due("share, above, " + m, x -> x.share(m, true), UNKNOWN);
            in.due("share, below, " + m, x -> x.share(m, false), UNKNOWN);
        }
        for (int slot : NO_SLOT) {
            in.due("keep " + slot, x -> x.keep(slot), UNKNOWN);
            in.due("again " + slot, x -> x.again(slot), UNKNOWN);
        }
    }

    private static void inEachState(Refused in) {
        letters(in);
        told(in);
        acts(in);
        asked(in);
        seenAndDrawn(in);
    }

    private static void inSomeStates(Refused unused, Refused busy, Refused full) {
        for (int who = 0; who < 6; who++) {
            int m = who;
            unused.due("leave one AWAY", x -> x.leave(m), LATE);
            full.due("join one THERE", x -> x.join(m), LATE);
        }
        busy.due("join one LEAVING", x -> x.join(1), LATE);
        busy.due("leave one LEAVING", x -> x.leave(1), LATE);
        busy.due("leave one AWAY", x -> x.leave(5), LATE);
        unused.due("undo", x -> x.undo(), LATE);
        unused.due("again 0", x -> x.again(0), LATE);
        unused.due("again 1", x -> x.again(1), LATE);
        busy.due("again 1", x -> x.again(1), LATE);
        full.due("write 0", x -> x.write(0), FULL);
        full.due("write a letter", x -> x.write('9'), FULL);
        full.due("write 255", x -> x.write(255), FULL);
        full.due("see 0 in 0", x -> x.see(0, 0), FULL);
        full.due("see 99 in 60", x -> x.see(60, 99), FULL);
    }

    /** "In what follows nothing is changed", and what else is told without a change. */
    private static void onlyAsked(Refused in) {
        in.changesNothing("fault", x -> x.fault());
        for (int what = 0; what <= 12; what++) {
            int w = what;
            in.changesNothing("about " + w, x -> x.about(w));
        }
        in.changesNothing("member", x -> x.member(2, 1));
        in.changesNothing("heard", x -> x.heard(2, 3));
        in.changesNothing("way", x -> x.way(2, 3));
        for (int what = 0; what <= 3; what++) {
            int w = what;
            in.changesNothing("ahead", x -> x.ahead(99, w));
        }
        in.changesNothing("crowd", x -> x.crowd(99));
        in.changesNothing("jitter", x -> x.jitter(6, 990099009900L));
        in.changesNothing("round", x -> x.round(9999, 1, 1));
        in.changesNothing("judge", x -> x.judge(4, 330105700101L));
        in.changesNothing("judge, done", x -> x.judge(4, 330701712330L));
        in.changesNothing("which", x -> x.which());
        in.changesNothing("share", x -> x.share(2, true));
        in.changesNothing("chance", x -> x.chance(3, 4, true));
        in.changesNothing("drawn, but for THE SEED", x -> {
            long seed = x.seed(77);
            x.drawn(40);
            return x.seed(seed);
        });
    }

    public static void main(String[] args) {
        statesAreAsSaid();
        Refused unused = new Refused(CHECK, "new", CrowdReports::new);
        Refused busy = new Refused(CHECK, "busy", RefusalsTest::busy);
        Refused full = new Refused(CHECK, "full", RefusalsTest::full);
        for (Refused in : new Refused[] {unused, busy, full}) {
            inEachState(in);
            onlyAsked(in);
        }
        inSomeStates(unused, busy, full);
        CHECK.end();
    }
}

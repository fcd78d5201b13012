/** Section 5: what is refused, of several the first, and that it changes nothing. */
public final class RefusalsTest {
    private static final Check CHECK = new Check();
    private static final int[] NO_MEMBER = {-1, 6, 32, Integer.MIN_VALUE, Integer.MAX_VALUE};

    private final CrowdReports x;
    private String before;

    private RefusalsTest(CrowdReports x) {
        this.x = x;
        before = Check.all(x);
    }

    private void due(String call, long got, long want) {
        CHECK.due(call, got, want);
        CHECK.holds(call + " changes nothing", before.equals(Check.all(x)));
    }

    private void members() {
        for (int m : NO_MEMBER) {
            due("member " + m, x.member(m, 0), -1);
            due("member " + m + ", bad too", x.member(m, 9), -1);
            due("heard", x.heard(m, 0), -1);
            due("heard", x.heard(0, m), -1);
            due("heard", x.heard(m, m), -1);
            due("way", x.way(m, 0), -1);
            due("way", x.way(0, m), -1);
            due("way, both one", x.way(m, m), -1);
            due("join", x.join(m), -1);
            due("leave", x.leave(m), -1);
            due("turn", x.turn(m, 0), -1);
            due("turn", x.turn(0, m), -1);
            due("turn, both one", x.turn(m, m), -1);
            due("share", x.share(m, true), -1);
            due("share", x.share(m, false), -1);
            due("keep", x.keep(m), -1);
            due("again", x.again(m), -1);
            due("about", x.about(m < 0 ? m : m + 7), -2);
            due("member", x.member(0, m), -2);
        }
        for (int m = 0; m < 6; m++) {
            due("way", x.way(m, m), -2);
            due("turn", x.turn(m, m), -2);
            due("join or leave", x.member(m, 0) == 0 ? x.leave(m) : x.join(m), -3);
        }
    }

    private void numbers() {
        int[] out = {Integer.MIN_VALUE, -1, 100, Integer.MAX_VALUE};
        for (int v : out) {
            due("pass", x.pass(v), -2);
            due("set", x.set(v, 1), -2);
            due("set", x.set(0, v), -2);
            due("set", x.set(v, v), -2);
            due("ahead", x.ahead(v, 0), -2);
            due("ahead", x.ahead(0, v), -2);
            due("crowd", x.crowd(v), -2);
            due("jitter", x.jitter(v, 0), -2);
            due("judge", x.judge(v, 101), -2);
            due("see", x.see(v, 0), -2);
            due("see", x.see(0, v), -2);
            due("chance", x.chance(v, 1, true), -2);
            due("chance", x.chance(1, v, true), -2);
            due("drawn", x.drawn(v), -2);
            due("write", x.write(v < 0 ? v : Math.max(256, v)), -2);
        }
        due("pass 0", x.pass(0), -2);
        due("pass 31", x.pass(31), -2);
        due("set 3", x.set(3, 1), -2);
        due("set to 0", x.set(1, 0), -2);
        due("set to 10", x.set(2, 10), -2);
        due("ahead what 4", x.ahead(99, 4), -2);
        due("crowd 0", x.crowd(0), -2);
        due("round", x.round(5, 4, 3), -3);
        due("round, bad too", x.round(5, 10, 10000), -2);
        due("meeting", x.meeting(), -3);
    }

    private void full() {
        while (x.about(12) < 60) {
            x.write('x');
        }
        while (x.about(11) < 6) {
            x.see(1, 1);
        }
        before = Check.all(x);
        due("write", x.write('1'), -4);
        due("write, bad too", x.write(300), -2);
        due("see", x.see(1, 1), -4);
        due("see, bad too", x.see(61, 1), -2);
    }

    private static void refuseAll(CrowdReports x) {
        Check.write(x, "M11");
        x.see(7, 3);
        x.seed(31);
        RefusalsTest test = new RefusalsTest(x);
        test.members();
        test.numbers();
        test.full();
    }

    public static void main(String[] args) {
        refuseAll(new CrowdReports());
        CrowdReports x = Check.met("M331123j0j1j2j3j4j5999l1l2");
        x.turn(1, 2);
        x.keep(0);
        x.pass(2);
        refuseAll(x);
        CHECK.end();
    }
}

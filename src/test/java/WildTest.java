import java.util.Random;

/** No call throws or fails to end, for any arguments in any state; each answer is in its bounds. */
public final class WildTest {
    private static final Check CHECK = new Check();
    private static final int RUNS = 300, CALLS = 512;
    private static final int[] EDGES = {Integer.MIN_VALUE, Integer.MIN_VALUE + 1, -65536, -10, -9, -2, -1, 0, 1,
        2, 3, 5, 6, 9, 10, 13, 30, 31, 40, 41, 60, 61, 99, 100, 255, 256, 9999, 10000, 65535, 65536,
        Integer.MAX_VALUE - 1, Integer.MAX_VALUE};

    private final Random random;
    private final CrowdReports x = new CrowdReports();

    private WildTest(long seed) {
        random = new Random(seed);
    }

    private int any() {
        int kind = random.nextInt(8);
        return kind == 0 ? random.nextInt() : kind <= 3 ? EDGES[random.nextInt(EDGES.length)] : random.nextInt(11);
    }

    private long anyRow() {
        int kind = random.nextInt(5);
        return kind == 0 ? random.nextLong() : kind == 1 ? any() : Math.floorMod(random.nextLong(), 1000000000000L);
    }

    private void answered(String call, long got, long most) {
        CHECK.holds(call + " answered " + got, got >= -9 && got <= most);
    }

    private void meet() {
        Check.write(x, "M" + (1 + random.nextInt(9)) + (1 + random.nextInt(9)) + "1000j0j1j2j39j4j5");
        answered("meeting", x.meeting(), 9);
    }

    private void call(int which) {
        switch (which) {
            case 0 -> answered("write", x.write(any()), 60);
            case 1 -> answered("wipe", x.wipe(), 60);
            case 2 -> answered("fault", x.fault(), 60);
            case 3 -> answered("meeting", x.meeting(), 477);
            case 4 -> answered("about", x.about(any()), 65535);
            case 5 -> answered("member", x.member(any(), any()), CALLS * 30);
            case 6 -> answered("heard", x.heard(any(), any()), CALLS * 30);
            case 7 -> answered("way", x.way(any(), any()), 1);
            case 8 -> answered("join", x.join(any()), CALLS * 30);
            case 9 -> answered("leave", x.leave(any()), CALLS * 30);
            case 10 -> answered("pass", x.pass(any()), 180);
            case 11 -> answered("turn", x.turn(any(), any()), 1);
            case 12 -> answered("set", x.set(any(), any()), 9);
            case 13 -> answered("undo", x.undo(), 13);
            case 14 -> answered("ahead", x.ahead(any(), any()), 65535);
            case 15 -> answered("crowd", x.crowd(any()), 6);
            case 16 -> answered("jitter", x.jitter(any(), anyRow()), 437);
            case 17 -> answered("round", x.round(any(), any(), any()), 9999);
            case 18 -> answered("judge", x.judge(any(), anyRow()), 3);
            case 19 -> answered("see", x.see(any(), any()), 6);
            case 20 -> answered("unsee", x.unsee(), 6);
            case 21 -> answered("which", x.which(), 1022);
            case 22 -> share(any());
            case 23 -> answered("chance", x.chance(any(), any(), random.nextBoolean()), 1000000);
            case 24 -> x.seed(random.nextLong());
            case 25 -> answered("drawn", x.drawn(any()), 280);
            case 26 -> answered("keep", x.keep(any()), CALLS * 30);
            default -> answered("again", x.again(any()), CALLS * 30);
        }
    }

    /** A SHARE may be less than -9: one that is only known makes others more seldom. */
    private void share(int m) {
        int below = x.share(m, false);
        int above = x.share(m, true);
        boolean known = m >= 0 && m <= 5;
        CHECK.holds("share, below: " + below, known ? below >= 1 && below <= 720 : below == -1);
        CHECK.holds("share, above: " + above, known ? Math.abs(above) <= 180 * below : above == -1);
    }

    public static void main(String[] args) {
        for (int run = 0; run < RUNS; run++) {
            WildTest test = new WildTest(run);
            test.meet();
            for (int i = 0; i < CALLS - 100; i++) {
                test.call(test.random.nextInt(28));
            }
        }
        CHECK.end();
    }
}

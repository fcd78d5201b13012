import java.util.Random;

/** Runs of calls, drawn by a fixed seed, with the answers of Model: every promise at once. */
public final class ModelTest {
    private static final int RUNS = 1500;
    /** An object answers as due for so many calls; a look at all and a meet() make less than LAST. */
    private static final int CALLS = 512, LAST = 220;
    private static final int[] WRONG = {-1, 6, 7, 255, Integer.MIN_VALUE, Integer.MAX_VALUE};

    private final Random random;
    private final Check check;
    private final CrowdReports x = new CrowdReports();
    private final Model y = new Model();
    private String call = "";
    private int made = 0;

    private ModelTest(long seed, Check check) {
        this.random = new Random(seed);
        this.check = check;
    }

    private int upTo(int most) {
        return random.nextInt(most + 1);
    }

    private int from(int least, int most) {
        return random.nextInt(12) == 0 ? least - 1 + upTo(1) * (most - least + 2) : least + upTo(most - least);
    }

    private int who() {
        return random.nextInt(25) == 0 ? WRONG[upTo(WRONG.length - 1)] : upTo(5);
    }

    private void due(long got, long want) {
        made++;
        check.due(call, got, want);
    }

    private String drawnText() {
        StringBuilder text = new StringBuilder("M");
        for (int i = 0; i < 3; i++) {
            text.append(1 + upTo(8));
        }
        for (int i = 0; i < 3; i++) {
            text.append(upTo(9));
        }
        int events = upTo(24);
        for (int i = 0; i < events; i++) {
            String start = text.toString();
            String next = upTo(2) == 0 ? Integer.toString(1 + upTo(8)) : (upTo(2) == 0 ? "l" : "j") + upTo(5);
            text.append(Model.play(start + next) != null || upTo(60) == 0 ? next : "");
        }
        if (upTo(4) == 0) {
            text.setLength(upTo(text.length()));
        }
        if (upTo(6) == 0 && text.length() > 0) {
            text.setCharAt(upTo(text.length() - 1), "Mjl0159m x".charAt(upTo(9)));
        }
        return text.length() > 60 ? text.substring(0, 60) : text.toString();
    }

    private void meet() {
        due(x.wipe(), y.wipe());
        for (char letter : drawnText().toCharArray()) {
            due(x.write(letter), y.write(letter));
        }
        call = "fault of " + y.text;
        due(x.fault(), y.fault());
        due(x.meeting(), y.meeting());
    }

    private void look() {
        for (int what = -1; what <= 13; what++) {
            due(x.about(what), y.about(what));
        }
        for (int m = 0; m < 6; m++) {
            for (int what = -1; what <= 6; what++) {
                due(x.member(m, what), y.member(m, what));
            }
            for (int o = 0; o < 6; o++) {
                due(x.heard(m, o), y.heard(m, o));
                due(x.way(m, o), y.way(m, o));
            }
        }
        long got = x.seed(0);
        due(got, y.seed(0));
        due(x.seed(got), y.seed(got));
    }

    private void glance() {
        int m = who();
        int o = who();
        int what = from(0, 12);
        due(x.about(what), y.about(what));
        due(x.member(m, what), y.member(m, what));
        what = upTo(5);
        due(x.member(m, what), y.member(m, what));
        due(x.heard(m, o), y.heard(m, o));
        due(x.way(m, o), y.way(m, o));
    }

    private long row(int figures) {
        if (upTo(15) == 0) {
            return upTo(1) == 0 ? -1 : Long.MAX_VALUE;
        }
        long row = 0;
        for (int i = 0; i < figures; i++) {
            row = row * 10 + upTo(9);
        }
        return row;
    }

    private long doings(int n) {
        long row = 0;
        for (int i = 0; i < n; i++) {
            int doing = 1 + upTo(6);
            int first = doing <= 2 ? (upTo(9) == 0 ? 1 : 0) : doing == 3 ? upTo(3) : upTo(upTo(9) == 0 ? 9 : 5);
            int second = doing == 3 || upTo(9) == 0 ? upTo(9) : upTo(5);
            row = row * 1000 + doing * 100 + first * 10 + second;
        }
        return upTo(25) == 0 ? row * 10 : row;
    }

    private void act() {
        int m = who();
        int o = who();
        switch (upTo(11)) {
            case 0, 1, 2:
                call = "join " + m;
                due(x.join(m), y.join(m));
                break;
            case 3:
                call = "leave " + m;
                due(x.leave(m), y.leave(m));
                break;
            case 4, 5, 6, 7:
                int k = upTo(2) == 0 ? from(1, 30) : 1 + upTo(5);
                call = "pass " + k;
                due(x.pass(k), y.pass(k));
                break;
            case 8:
                call = "turn " + m + " " + o;
                due(x.turn(m, o), y.turn(m, o));
                break;
            case 9:
                int what = from(0, 2);
                int v = from(1, 9);
                call = "set " + what + " " + v;
                due(x.set(what, v), y.set(what, v));
                break;
            case 10:
                call = "undo";
                due(x.undo(), y.undo());
                break;
            default:
                int slot = from(0, 1);
                call = "slot " + slot;
                boolean again = upTo(2) == 0;
                due(again ? x.again(slot) : x.keep(slot), again ? y.again(slot) : y.keep(slot));
        }
    }

    private void ask() {
        int n;
        int k = from(0, 99);
        boolean upper = random.nextBoolean();
        long row;
        switch (upTo(9)) {
            case 0:
                n = from(0, 3);
                call = "ahead " + k + " " + n;
                due(x.ahead(k, n), y.ahead(k, n));
                break;
            case 1:
                call = "crowd " + k;
                due(x.crowd(k), y.crowd(k));
                break;
            case 2:
                n = from(1, 6);
                row = row(2 * n + (upTo(9) == 0 ? 1 : 0));
                call = "jitter " + n + " " + row;
                due(x.jitter(n, row), y.jitter(n, row));
                break;
            case 3:
                int now = from(0, 9999);
                int stamp = upTo(1) == 0 ? from(0, 9999) : upTo(now < 0 ? 1 : now);
                int held = from(0, upTo(1) == 0 ? 99 : 9999);
                call = "round " + now + " " + stamp + " " + held;
                due(x.round(now, stamp, held), y.round(now, stamp, held));
                break;
            case 4, 5:
                n = from(1, 4);
                row = upTo(9) == 0 ? row(3 * n) : doings(n);
                call = "judge " + n + " " + row;
                due(x.judge(n, row), y.judge(n, row));
                break;
            case 6:
                askSeen();
                break;
            case 7:
                int who = who();
                call = "share " + who + " " + upper;
                due(x.share(who, upper), y.share(who, upper));
                break;
            case 8:
                int v = upTo(1) == 0 ? from(0, 99) : upTo(20);
                n = from(0, 10);
                call = "chance " + v + " " + n + " " + upper;
                due(x.chance(v, n, upper), y.chance(v, n, upper));
                break;
            default:
                long seed = random.nextLong();
                due(x.seed(seed), y.seed(seed));
                n = from(1, 40);
                call = "drawn " + n + " by " + seed;
                due(x.drawn(n), y.drawn(n));
        }
    }

    private void askSeen() {
        int k = from(0, 60);
        Model.World w = y.world.copy();
        w.rate = 1 + upTo(8);
        int n = upTo(5) == 0 ? from(0, 99) : w.ticks(Math.max(0, k));
        call = "see " + k + " " + n;
        due(x.see(k, n), y.see(k, n));
        due(x.which(), y.which());
        if (upTo(7) == 0) {
            due(x.unsee(), y.unsee());
            due(x.which(), y.which());
        }
    }

    private void run(int number) {
        if (number % 4 != 0) {
            meet();
        }
        while (made < CALLS - LAST) {
            act();
            if (upTo(3) == 0) {
                ask();
            }
            call = "behind " + call;
            glance();
            if (upTo(40) == 0) {
                meet();
            }
        }
        look();
        check.holds("512 calls at most, not " + made, made <= CALLS);
    }

    public static void main(String[] args) {
        Check check = new Check();
        for (int i = 0; i < RUNS; i++) {
            new ModelTest(1000 + i, check).run(i);
        }
        check.end();
    }
}

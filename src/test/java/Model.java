import java.math.BigInteger;
import java.util.ArrayDeque;
import java.util.ArrayList;
import java.util.Deque;
import java.util.List;
import java.util.Map;
import java.util.TreeMap;
import java.util.TreeSet;
import java.util.regex.Pattern;

/**
 * The document once more, sentence by sentence and slow: sets and maps instead of bits, all 720
 * orders instead of weights, a search for an ending instead of a reader.
 */
final class Model {
    static final int UNKNOWN = -1, BAD = -2, LATE = -3, FULL = -4, NONE = -9;

    static final class One {
        String is = "AWAY";
        TreeMap<Integer, Integer> knows = new TreeMap<>();
        int begun = 0;
        int due = 0;
        int goers = 0;

        One copy() {
            One one = new One();
            one.is = is;
            one.knows = new TreeMap<>(knows);
            one.begun = begun;
            one.due = due;
            one.goers = goers;
            return one;
        }

        int count() {
            return knows.size() + 1;
        }
    }

    static final class World {
        int size = 1, rate = 1, min = 1, clock = 0, reports = 0, byes = 0;
        long lot = 0;
        List<One> ones = new ArrayList<>();
        TreeSet<String> shut = new TreeSet<>();

        World() {
            for (int i = 0; i < 6; i++) {
                ones.add(new One());
            }
        }

        World copy() {
            World w = new World();
            w.size = size;
            w.rate = rate;
            w.min = min;
            w.clock = clock;
            w.reports = reports;
            w.byes = byes;
            w.lot = lot;
            w.shut = new TreeSet<>(shut);
            for (int i = 0; i < 6; i++) {
                w.ones.set(i, ones.get(i).copy());
            }
            return w;
        }

        int letters() {
            return reports + byes;
        }

        int t(int c) {
            int up = 0;
            while (up * rate < c * size) {
                up++;
            }
            return up > min ? up : min;
        }

        int draw() {
            lot = (lot * 25173L + 13849L) & 0xFFFFL;
            return (int) ((lot >> 4) % 5L);
        }

        int waits(int c) {
            int cut = (t(c) * (draw() + 2)) >> 2;
            return cut == 0 ? 1 : cut;
        }

        boolean joins(int m) {
            if (m < 0 || m > 5 || !ones.get(m).is.equals("AWAY")) {
                return false;
            }
            One one = new One();
            ones.set(m, one);
            one.is = "THERE";
            one.begun = clock;
            one.due = clock + waits(1);
            return true;
        }

        boolean leaves(int m) {
            if (m < 0 || m > 5 || !ones.get(m).is.equals("THERE")) {
                return false;
            }
            One one = ones.get(m);
            if (one.count() < 4) {
                bye(m);
                return true;
            }
            one.is = "LEAVING";
            one.goers = 1;
            one.begun = clock;
            one.due = clock + waits(1);
            return true;
        }

        void bye(int sender) {
            ones.set(sender, new One());
            byes++;
            for (int r = 0; r < 6; r++) {
                One one = ones.get(r);
                if (r == sender || one.is.equals("AWAY") || shut.contains(sender + ">" + r)) {
                    continue;
                }
                int was = one.count();
                boolean knew = one.knows.remove(sender) != null;
                if (one.is.equals("LEAVING")) {
                    one.goers++;
                } else if (knew) {
                    int left = one.due > clock ? one.due - clock : 0;
                    one.due = clock + left * one.count() / was;
                    one.begun = clock - (clock - one.begun) * one.count() / was;
                }
            }
        }

        void report(int sender) {
            reports++;
            for (int r = 0; r < 6; r++) {
                One one = ones.get(r);
                if (r != sender && !one.is.equals("AWAY") && !shut.contains(sender + ">" + r)) {
                    one.knows.put(sender, clock);
                }
            }
        }

        void tick() {
            clock++;
            for (int m = 0; m < 6; m++) {
                One one = ones.get(m);
                if (one.is.equals("AWAY") || one.due > clock) {
                    continue;
                }
                if (one.is.equals("THERE")) {
                    int w = waits(one.count());
                    if (one.begun + w <= clock) {
                        report(m);
                        one.begun = clock;
                        one.due = clock + waits(one.count());
                    } else {
                        one.due = one.begun + w;
                    }
                } else {
                    int w = waits(one.goers);
                    if (one.begun + w <= clock) {
                        bye(m);
                    } else {
                        one.due = one.begun + w;
                    }
                }
            }
            for (One one : ones) {
                if (one.is.equals("THERE")) {
                    int far = 5 * t(one.count());
                    one.knows.values().removeIf(at -> clock - at > far);
                }
            }
        }

        int ticks(int k) {
            int before = letters();
            for (int i = 0; i < k; i++) {
                tick();
            }
            return letters() - before;
        }

        World behind(int k) {
            World w = copy();
            w.ticks(k);
            return w;
        }

        int bits(String is) {
            int bits = 0;
            for (int m = 0; m < 6; m++) {
                bits += ones.get(m).is.equals(is) ? 1 << m : 0;
            }
            return bits;
        }

        boolean atRest() {
            for (int m = 0; m < 6; m++) {
                One one = ones.get(m);
                if (one.is.equals("LEAVING")) {
                    return false;
                }
                if (one.is.equals("AWAY")) {
                    continue;
                }
                TreeSet<Integer> others = new TreeSet<>();
                for (int o = 0; o < 6; o++) {
                    if (o != m && ones.get(o).is.equals("THERE")) {
                        others.add(o);
                    }
                }
                if (!one.knows.keySet().equals(others)) {
                    return false;
                }
            }
            return true;
        }

        World with(TreeSet<Integer> come) {
            World w = copy();
            for (int m = 0; m < 6; m++) {
                if (!come.contains(m)) {
                    w.ones.set(m, new One());
                    for (One one : w.ones) {
                        one.knows.remove(m);
                    }
                }
            }
            return w;
        }

        void turns(int from, int to) {
            String way = from + ">" + to;
            if (!shut.remove(way)) {
                shut.add(way);
            }
        }
    }

    World world = new World();
    final Deque<World> acts = new ArrayDeque<>();
    final Map<Integer, World> slots = new TreeMap<>();
    String text = "";
    final List<int[]> seen = new ArrayList<>();
    long seed = 0;

    static boolean none(int m) {
        return m < 0 || m > 5;
    }

    static boolean out(long v, long low, long high) {
        return v < low || v > high;
    }

    int write(int letter) {
        if (out(letter, 0, 255)) {
            return BAD;
        }
        if (text.length() == 60) {
            return FULL;
        }
        text += (char) letter;
        return text.length();
    }

    int wipe() {
        int was = text.length();
        text = "";
        return was;
    }

    private static final Pattern FORM = Pattern.compile("M[1-9]{3}[0-9]{3}([jl][0-5]|[1-9])*");

    /** The world that a whole MEETING leaves; null: it is none. */
    static World play(String t) {
        if (!FORM.matcher(t).matches()) {
            return null;
        }
        World w = new World();
        w.size = t.charAt(1) - '0';
        w.rate = t.charAt(2) - '0';
        w.min = t.charAt(3) - '0';
        w.lot = Integer.parseInt(t.substring(4, 7));
        for (int i = 7; i < t.length(); i++) {
            char c = t.charAt(i);
            if (c == 'j' || c == 'l') {
                i++;
                int m = t.charAt(i) - '0';
                if (!(c == 'j' ? w.joins(m) : w.leaves(m))) {
                    return null;
                }
            } else {
                w.ticks(c - '0');
            }
        }
        return w;
    }

    static boolean canGoOn(String start) {
        if (start.length() < 7) {
            return play(start + "M111000".substring(start.length())) != null;
        }
        boolean can = play(start) != null;
        for (int m = 0; m < 6 && !can; m++) {
            can = play(start + m) != null;
        }
        return can;
    }

    int fault() {
        for (int i = 0; i < text.length(); i++) {
            if (!canGoOn(text.substring(0, i + 1))) {
                return i;
            }
        }
        return play(text) != null ? NONE : text.length();
    }

    int meeting() {
        World w = play(text);
        if (w == null) {
            return LATE;
        }
        world = w;
        acts.clear();
        slots.clear();
        return w.clock;
    }

    int about(int what) {
        int[] told = {world.size, world.rate, world.min, world.clock, (int) world.lot, world.reports,
            world.byes, world.bits("THERE"), world.bits("LEAVING"), what == 9 ? rest() : 0, acts.size(),
            seen.size(), text.length()};
        return out(what, 0, 12) ? BAD : told[what];
    }

    private int rest() {
        for (int k = 0; k <= 99; k++) {
            if (world.behind(k).atRest()) {
                return k;
            }
        }
        return NONE;
    }

    int member(int m, int what) {
        if (none(m)) {
            return UNKNOWN;
        }
        if (out(what, 0, 5)) {
            return BAD;
        }
        One one = world.ones.get(m);
        int bits = 0;
        for (int o : one.knows.keySet()) {
            bits += 1 << o;
        }
        int is = List.of("AWAY", "THERE", "LEAVING").indexOf(one.is);
        return new int[] {is, bits, is == 0 ? 0 : one.count(), one.begun, one.due, one.goers}[what];
    }

    int heard(int m, int other) {
        if (none(m) || none(other)) {
            return UNKNOWN;
        }
        return world.ones.get(m).knows.getOrDefault(other, NONE);
    }

    int way(int from, int to) {
        if (none(from) || none(to)) {
            return UNKNOWN;
        }
        return from == to ? BAD : world.shut.contains(from + ">" + to) ? 0 : 1;
    }

    private void act() {
        acts.addLast(world.copy());
        if (acts.size() > 14) {
            acts.removeFirst();
        }
    }

    int join(int m) {
        if (none(m)) {
            return UNKNOWN;
        }
        if (!world.ones.get(m).is.equals("AWAY")) {
            return LATE;
        }
        act();
        world.joins(m);
        return world.ones.get(m).due;
    }

    int leave(int m) {
        if (none(m)) {
            return UNKNOWN;
        }
        if (!world.ones.get(m).is.equals("THERE")) {
            return LATE;
        }
        act();
        world.leaves(m);
        return world.ones.get(m).is.equals("AWAY") ? 0 : world.ones.get(m).due;
    }

    int pass(int k) {
        if (out(k, 1, 30)) {
            return BAD;
        }
        act();
        return world.ticks(k);
    }

    int turn(int from, int to) {
        if (none(from) || none(to)) {
            return UNKNOWN;
        }
        if (from == to) {
            return BAD;
        }
        act();
        world.turns(from, to);
        return way(from, to);
    }

    int set(int what, int v) {
        if (out(what, 0, 2) || out(v, 1, 9)) {
            return BAD;
        }
        act();
        int was = about(what);
        if (what == 0) {
            world.size = v;
        }
        if (what == 1) {
            world.rate = v;
        }
        if (what == 2) {
            world.min = v;
        }
        return was;
    }

    int undo() {
        if (acts.isEmpty()) {
            return LATE;
        }
        world = acts.removeLast();
        return acts.size();
    }

    int ahead(int k, int what) {
        if (out(k, 0, 99) || out(what, 0, 3)) {
            return BAD;
        }
        World w = world.behind(k);
        return new int[] {w.reports, w.byes, w.bits("THERE"), (int) w.lot}[what];
    }

    int crowd(int k) {
        if (out(k, 1, 99)) {
            return BAD;
        }
        int most = 0;
        for (int i = 1; i <= k; i++) {
            most = Math.max(most, world.behind(i).letters() - world.behind(i - 1).letters());
        }
        return most;
    }

    private static String figures(int n, int each, long row) {
        String s = Long.toString(row);
        return "0".repeat(Math.max(0, n * each - s.length())) + s;
    }

    int jitter(int n, long row) {
        if (out(n, 1, 6) || row < 0 || figures(n, 2, row).length() > 2 * n) {
            return BAD;
        }
        String f = figures(n, 2, row);
        int j = 0;
        for (int i = 2; i < 2 * n; i += 2) {
            int d = Integer.parseInt(f.substring(i, i + 2)) - Integer.parseInt(f.substring(i - 2, i));
            j = j + (d < 0 ? -d : d) - (j + 8) / 16;
        }
        return j;
    }

    int round(int now, int stamp, int held) {
        if (out(now, 0, 9999) || out(stamp, 0, 9999) || out(held, 0, 9999)) {
            return BAD;
        }
        return now - stamp - held < 0 ? LATE : now - stamp - held;
    }

    int judge(int n, long row) {
        if (out(n, 1, 4) || row < 0 || figures(n, 3, row).length() > 3 * n) {
            return BAD;
        }
        String f = figures(n, 3, row);
        Model other = new Model();
        other.world = world.copy();
        for (int i = 0; i < n; i++) {
            if (!other.told(f.charAt(3 * i), f.charAt(3 * i + 1) - '0', f.charAt(3 * i + 2) - '0')) {
                return i;
            }
        }
        return NONE;
    }

    private boolean told(char what, int a, int b) {
        if (what == '1') {
            return a == 0 && world.joins(b);
        }
        if (what == '2') {
            return a == 0 && world.leaves(b);
        }
        if (what == '3') {
            return pass(a * 10 + b) >= 0;
        }
        if (what == '4') {
            return member(a, 0) == b;
        }
        if (what == '5') {
            return heard(a, b) >= 0;
        }
        if (what == '6') {
            return member(a, 2) == b;
        }
        return what == '7' && turn(a, b) >= 0;
    }

    int see(int k, int n) {
        if (out(k, 0, 60) || out(n, 0, 99)) {
            return BAD;
        }
        if (seen.size() == 6) {
            return FULL;
        }
        seen.add(new int[] {k, n});
        return seen.size();
    }

    int unsee() {
        int was = seen.size();
        seen.clear();
        return was;
    }

    int which() {
        int bits = 0;
        for (int r = 1; r <= 9; r++) {
            boolean so = true;
            for (int[] s : seen) {
                World w = world.copy();
                w.rate = r;
                so &= w.ticks(s[0]) == s[1];
            }
            bits += so ? 1 << r : 0;
        }
        return bits;
    }

    private static int told(BigInteger above, BigInteger below, boolean upper) {
        BigInteger g = above.gcd(below);
        return (upper ? above : below).divide(g).intValueExact();
    }

    int share(int m, boolean upper) {
        if (none(m)) {
            return UNKNOWN;
        }
        Map<TreeSet<Integer>, Integer> known = new java.util.HashMap<>();
        long[] sum = new long[2];
        orders(m, new ArrayList<>(), known, sum);
        return told(BigInteger.valueOf(sum[0]), BigInteger.valueOf(sum[1]), upper);
    }

    private void orders(int m, List<Integer> row, Map<TreeSet<Integer>, Integer> known, long[] sum) {
        if (row.size() == 6) {
            TreeSet<Integer> come = new TreeSet<>(row.subList(0, row.indexOf(m)));
            int without = known.computeIfAbsent(new TreeSet<>(come), c -> world.with(c).ticks(30));
            come.add(m);
            sum[0] += known.computeIfAbsent(come, c -> world.with(c).ticks(30)) - without;
            sum[1]++;
            return;
        }
        for (int next = 0; next < 6; next++) {
            if (!row.contains(next)) {
                row.add(next);
                orders(m, row, known, sum);
                row.remove(row.size() - 1);
            }
        }
    }

    int chance(int v, int x, boolean upper) {
        if (out(v, 0, 99) || out(x, 0, 10)) {
            return BAD;
        }
        return told(likely(0, new TreeSet<>(), v, x), BigInteger.TEN.pow(6), upper);
    }

    private BigInteger likely(int m, TreeSet<Integer> come, int v, int x) {
        if (m == 6) {
            return world.with(come).ticks(20) >= v ? BigInteger.ONE : BigInteger.ZERO;
        }
        TreeSet<Integer> more = new TreeSet<>(come);
        more.add(m);
        return BigInteger.valueOf(x).multiply(likely(m + 1, come, v, x))
            .add(BigInteger.valueOf(10 - x).multiply(likely(m + 1, more, v, x)));
    }

    long seed(long v) {
        long was = seed;
        seed = v;
        return was;
    }

    int drawn(int m) {
        if (out(m, 1, 40)) {
            return BAD;
        }
        World w = world.copy();
        for (int i = 0; i < m; i++) {
            seed = BigInteger.valueOf(seed).multiply(BigInteger.valueOf(6364136223846793005L))
                .add(BigInteger.valueOf(1442695040888963407L)).longValue();
            int v = (int) (seed >>> 33);
            int who = v / 8 % 6;
            if (v % 8 == 0) {
                if (w.ones.get(who).is.equals("AWAY")) {
                    w.joins(who);
                } else if (w.ones.get(who).is.equals("THERE")) {
                    w.leaves(who);
                }
            }
            w.tick();
        }
        return w.letters() - world.letters();
    }

    int keep(int slot) {
        if (out(slot, 0, 1)) {
            return UNKNOWN;
        }
        slots.put(slot, world.copy());
        return world.clock;
    }

    int again(int slot) {
        if (out(slot, 0, 1)) {
            return UNKNOWN;
        }
        if (!slots.containsKey(slot)) {
            return LATE;
        }
        world = slots.get(slot).copy();
        acts.clear();
        return world.clock;
    }
}

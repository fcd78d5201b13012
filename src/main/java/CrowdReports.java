/** Members that tell one another that they are there, the more seldom the more they know of. */
public final class CrowdReports {
    public static final int UNKNOWN = -1, BAD = -2, LATE = -3, FULL = -4, NONE = -9;

    private static final int MEMBERS = 6, SUBSETS = 64;
    private static final int AWAY = 0, THERE = 1, LEAVING = 2;
    private static final int TEXT_MOST = 60, HEAD_LETTERS = 7;
    private static final int ACTS_MOST = 14, PASS_MOST = 30, AHEAD_MOST = 99;
    private static final int SEEN_MOST = 6, SEEN_TICKS_MOST = 60, LETTERS_MOST = 99;
    private static final int RATE_MOST = 9, SLOTS = 2;
    private static final int SHARE_TICKS = 30, CHANCE_TICKS = 20;

    /** In how many of the 720 orders just so many (0 .. 5) come ahead of one, and are given ones. */
    private static final int[] ORDERS = {120, 24, 12, 12, 24, 120};
    private static final int ALL_ORDERS = 720, ALL_TENTHS = 1000000;

    private final Crowd now = new Crowd();
    private final Crowd trial = new Crowd();
    private final Crowd[] past = new Crowd[ACTS_MOST];
    private int acts = 0;
    private final Crowd[] slots = new Crowd[SLOTS];
    private int keptBits = 0;
    private final int[] text = new int[TEXT_MOST];
    private int letters = 0;
    private final int[] seenTicks = new int[SEEN_MOST];
    private final int[] seenLetters = new int[SEEN_MOST];
    private int seen = 0;
    private long lastSeed = 0;
    private final int[] sentBy = new int[SUBSETS];

    public CrowdReports() {
        for (int i = 0; i < ACTS_MOST; i++) {
            past[i] = new Crowd();
        }
        for (int i = 0; i < SLOTS; i++) {
            slots[i] = new Crowd();
        }
    }

    // ---- the meeting

    public int write(int letter) {
        if (letter < 0 || letter > 255) {
            return BAD;
        }
        if (letters >= TEXT_MOST) {
            return FULL;
        }
        text[letters] = letter;
        letters++;
        return letters;
    }

    public int wipe() {
        int were = letters;
        letters = 0;
        return were;
    }

    public int fault() {
        return readText();
    }

    public int meeting() {
        if (readText() != NONE) {
            return LATE;
        }
        now.takeFrom(trial);
        acts = 0;
        keptBits = 0;
        return now.clock;
    }

    public int about(int what) {
        switch (what) {
            case 0: return now.size;
            case 1: return now.rate;
            case 2: return now.min;
            case 3: return now.clock;
            case 4: return now.lot;
            case 5: return now.reports;
            case 6: return now.byes;
            case 7: return now.bitsOf(THERE);
            case 8: return now.bitsOf(LEAVING);
            case 9: return restAt();
            case 10: return acts;
            case 11: return seen;
            case 12: return letters;
            default: return BAD;
        }
    }

    public int member(int member, int what) {
        if (!isMember(member)) {
            return UNKNOWN;
        }
        switch (what) {
            case 0: return now.kind[member];
            case 1: return now.known[member];
            case 2: return now.countTold(member);
            case 3: return now.begun[member];
            case 4: return now.due[member];
            case 5: return now.goers[member];
            default: return BAD;
        }
    }

    public int heard(int member, int other) {
        if (!isMember(member) || !isMember(other)) {
            return UNKNOWN;
        }
        return now.knows(member, other) ? now.lastHeard[member * MEMBERS + other] : NONE;
    }

    public int way(int from, int to) {
        if (!isMember(from) || !isMember(to)) {
            return UNKNOWN;
        }
        if (from == to) {
            return BAD;
        }
        return now.isOpen(from, to) ? 1 : 0;
    }

    // ---- acts

    public int join(int member) {
        if (!isMember(member)) {
            return UNKNOWN;
        }
        if (now.kind[member] != AWAY) {
            return LATE;
        }
        remember();
        now.enter(member);
        return now.due[member];
    }

    public int leave(int member) {
        if (!isMember(member)) {
            return UNKNOWN;
        }
        if (now.kind[member] != THERE) {
            return LATE;
        }
        remember();
        now.depart(member);
        return now.due[member];
    }

    public int pass(int k) {
        if (k < 1 || k > PASS_MOST) {
            return BAD;
        }
        remember();
        return now.run(k);
    }

    public int turn(int from, int to) {
        if (!isMember(from) || !isMember(to)) {
            return UNKNOWN;
        }
        if (from == to) {
            return BAD;
        }
        remember();
        now.turnWay(from, to);
        return now.isOpen(from, to) ? 1 : 0;
    }

    public int set(int what, int v) {
        if (what < 0 || what > 2 || v < 1 || v > 9) {
            return BAD;
        }
        remember();
        return now.tellAnew(what, v);
    }

    public int undo() {
        if (acts < 1 || acts > ACTS_MOST) {
            return LATE;
        }
        acts--;
        now.takeFrom(past[acts]);
        return acts;
    }

    // ---- asked

    public int ahead(int k, int what) {
        if (k < 0 || k > AHEAD_MOST || what < 0 || what > 3) {
            return BAD;
        }
        trial.takeFrom(now);
        trial.run(k);
        switch (what) {
            case 0: return trial.reports;
            case 1: return trial.byes;
            case 2: return trial.bitsOf(THERE);
            default: return trial.lot;
        }
    }

    public int crowd(int k) {
        if (k < 1 || k > AHEAD_MOST) {
            return BAD;
        }
        trial.takeFrom(now);
        int most = 0;
        for (int t = 0; t < k; t++) {
            most = Math.max(most, trial.run(1));
        }
        return most;
    }

    public int jitter(int n, long row) {
        if (n < 1 || n > 6 || row < 0 || row >= tenTo(2 * n)) {
            return BAD;
        }
        int jitter = 0;
        for (int i = 1; i < n; i++) {
            int gap = Math.abs(part(row, n - 1 - i, 2) - part(row, n - i, 2));
            jitter += gap - (jitter + 8) / 16;
        }
        return jitter;
    }

    public int round(int now, int stamp, int held) {
        if (!isTime(now) || !isTime(stamp) || !isTime(held)) {
            return BAD;
        }
        int round = now - stamp - held;
        return round < 0 ? LATE : round;
    }

    public int judge(int n, long row) {
        if (n < 1 || n > 4 || row < 0 || row >= tenTo(3 * n)) {
            return BAD;
        }
        trial.takeFrom(now);
        for (int i = 0; i < n; i++) {
            if (!canBe(part(row, n - 1 - i, 3))) {
                return i;
            }
        }
        return NONE;
    }

    // ---- seen

    public int see(int k, int n) {
        if (k < 0 || k > SEEN_TICKS_MOST || n < 0 || n > LETTERS_MOST) {
            return BAD;
        }
        if (seen >= SEEN_MOST) {
            return FULL;
        }
        seenTicks[seen] = k;
        seenLetters[seen] = n;
        seen++;
        return seen;
    }

    public int unsee() {
        int were = seen;
        seen = 0;
        return were;
    }

    public int which() {
        int rates = 0;
        for (int rate = 1; rate <= RATE_MOST; rate++) {
            if (fitsSeen(rate)) {
                rates |= 1 << rate;
            }
        }
        return rates;
    }

    // ---- shares, chances

    public int share(int member, boolean upper) {
        if (!isMember(member)) {
            return UNKNOWN;
        }
        runSubsets(SHARE_TICKS);
        int sum = 0;
        for (int come = 0; come < SUBSETS; come++) {
            if ((come >> member & 1) == 0) {
                int more = sentBy[come | 1 << member] - sentBy[come];
                sum += more * ORDERS[Integer.bitCount(come)];
            }
        }
        return fraction(sum, ALL_ORDERS, upper);
    }

    public int chance(int v, int x, boolean upper) {
        if (v < 0 || v > LETTERS_MOST || x < 0 || x > 10) {
            return BAD;
        }
        runSubsets(CHANCE_TICKS);
        int sum = 0;
        for (int come = 0; come < SUBSETS; come++) {
            if (sentBy[come] >= v) {
                sum += likelihood(come, x);
            }
        }
        return fraction(sum, ALL_TENTHS, upper);
    }

    public long seed(long v) {
        long was = lastSeed;
        lastSeed = v;
        return was;
    }

    public int drawn(int m) {
        if (m < 1 || m > 40) {
            return BAD;
        }
        trial.takeFrom(now);
        int before = trial.sent();
        for (int i = 0; i < m; i++) {
            lastSeed = lastSeed * 6364136223846793005L + 1442695040888963407L;
            int v = (int) (lastSeed >>> 33);
            if (v % 8 == 0) {
                trial.enterOrDepart(v / 8 % MEMBERS);
            }
            trial.run(1);
        }
        return trial.sent() - before;
    }

    // ---- slots

    public int keep(int slot) {
        if (slot < 0 || slot >= SLOTS) {
            return UNKNOWN;
        }
        slots[slot].takeFrom(now);
        keptBits |= 1 << slot;
        return now.clock;
    }

    public int again(int slot) {
        if (slot < 0 || slot >= SLOTS) {
            return UNKNOWN;
        }
        if ((keptBits >> slot & 1) == 0) {
            return LATE;
        }
        now.takeFrom(slots[slot]);
        acts = 0;
        return now.clock;
    }

    // ---- what the calls share

    private static boolean isMember(int number) {
        return number >= 0 && number < MEMBERS;
    }

    private static boolean isTime(int number) {
        return number >= 0 && number <= 9999;
    }

    private static boolean isFigure(int letter, int least) {
        return letter >= '0' + least && letter <= '9';
    }

    private static long tenTo(int power) {
        long ten = 1;
        for (int i = 0; i < power; i++) {
            ten *= 10;
        }
        return ten;
    }

    /** The part of a row of numbers of so many figures each that has so many parts behind it. */
    private static int part(long row, int behind, int figures) {
        return (int) (row / tenTo(behind * figures) % tenTo(figures));
    }

    private static int greatestDivisor(int a, int b) {
        int large = a;
        int small = b;
        // Each two rounds halve the numbers at least, so 64 are enough for any int.
        for (int i = 0; i < 64 && small != 0; i++) {
            int rest = large % small;
            large = small;
            small = rest;
        }
        return Math.max(1, large);
    }

    private static int fraction(int above, int below, boolean upper) {
        int divisor = greatestDivisor(Math.abs(above), below);
        return upper ? above / divisor : below / divisor;
    }

    /** How likely it is, in millionths, that just these have come, each being AWAY by x tenths. */
    private static int likelihood(int come, int x) {
        int millionths = 1;
        for (int m = 0; m < MEMBERS; m++) {
            millionths *= (come >> m & 1) == 0 ? x : 10 - x;
        }
        return millionths;
    }

    /** Keeps how all is ahead of an ACT; the oldest row is used again when all are in use. */
    private void remember() {
        if (acts >= ACTS_MOST) {
            Crowd oldest = past[0];
            for (int i = 1; i < ACTS_MOST; i++) {
                past[i - 1] = past[i];
            }
            past[ACTS_MOST - 1] = oldest;
            acts = ACTS_MOST - 1;
        }
        past[acts].takeFrom(now);
        acts++;
    }

    /** FAULT of THE TEXT; where it answers NONE, the trial is as the MEETING leaves it. */
    private int readText() {
        int headFault = readHead();
        if (headFault != NONE) {
            return headFault;
        }
        int begun = 0;
        for (int place = HEAD_LETTERS; place < letters; place++) {
            int letter = text[place];
            if (begun != 0) {
                int member = letter - '0';
                boolean could = begun == 'j' ? trial.enter(member) : trial.depart(member);
                if (!could) {
                    return place;
                }
                begun = 0;
            } else if (isFigure(letter, 1)) {
                trial.run(letter - '0');
            } else if (canBegin(letter)) {
                begun = letter;
            } else {
                return place;
            }
        }
        return begun == 0 ? NONE : letters;
    }

    private int readHead() {
        for (int place = 0; place < HEAD_LETTERS; place++) {
            if (place >= letters) {
                return letters;
            }
            boolean fits = place == 0 ? text[0] == 'M' : isFigure(text[place], place < 4 ? 1 : 0);
            if (!fits) {
                return place;
            }
        }
        trial.restart();
        trial.size = text[1] - '0';
        trial.rate = text[2] - '0';
        trial.min = text[3] - '0';
        trial.lot = (text[4] - '0') * 100 + (text[5] - '0') * 10 + (text[6] - '0');
        return NONE;
    }

    private boolean canBegin(int letter) {
        return letter == 'j' && trial.bitsOf(AWAY) != 0
            || letter == 'l' && trial.bitsOf(THERE) != 0;
    }

    private int restAt() {
        trial.takeFrom(now);
        for (int k = 0; k <= AHEAD_MOST; k++) {
            if (trial.isAtRest()) {
                return k;
            }
            trial.run(1);
        }
        return NONE;
    }

    /** Does (1, 2, 3, 7) or asks (4 .. 6) a told doing in the trial; false: it can not be. */
    private boolean canBe(int doing) {
        int first = doing / 10 % 10;
        int second = doing % 10;
        int ticks = doing % 100;
        switch (doing / 100) {
            case 1: return first == 0 && trial.enter(second);
            case 2: return first == 0 && trial.depart(second);
            // What run answers is never less than 0: TICKS that are done can be.
            case 3: return ticks >= 1 && ticks <= PASS_MOST && trial.run(ticks) >= 0;
            case 4: return isMember(first) && trial.kind[first] == second;
            case 5: return isMember(first) && isMember(second) && trial.knows(first, second);
            case 6: return isMember(first) && trial.countTold(first) == second;
            case 7: return isMember(first) && isMember(second) && trial.turnWay(first, second);
            default: return false;
        }
    }

    private boolean fitsSeen(int rate) {
        trial.takeFrom(now);
        trial.rate = rate;
        int sent = 0;
        for (int t = 0; t <= SEEN_TICKS_MOST; t++) {
            for (int i = 0; i < seen && i < SEEN_MOST; i++) {
                if (seenTicks[i] == t && seenLetters[i] != sent) {
                    return false;
                }
            }
            sent += trial.run(1);
        }
        return true;
    }

    /** How many LETTERS are sent in so many TICKS, for each set of MEMBERS that have come. */
    private void runSubsets(int ticks) {
        int felt = now.feltBits();
        for (int come = 0; come < SUBSETS; come++) {
            int those = come & felt;
            if (those != come) {
                // Who is AWAY and not known to anyone makes no difference: no second run for it.
                sentBy[come] = sentBy[those];
            } else {
                trial.takeFrom(now);
                trial.leaveOnly(come);
                sentBy[come] = trial.run(ticks);
            }
        }
    }

    /** MEMBERS with all that they have, WAYS, SIZE, RATE, MIN, THE LOT, THE CLOCK and what was sent. */
    private static final class Crowd {
        int size = 1;
        int rate = 1;
        int min = 1;
        int clock = 0;
        int lot = 0;
        int reports = 0;
        int byes = 0;
        final int[] kind = new int[MEMBERS];
        final int[] known = new int[MEMBERS];
        final int[] begun = new int[MEMBERS];
        final int[] due = new int[MEMBERS];
        final int[] goers = new int[MEMBERS];
        final int[] shut = new int[MEMBERS];
        final int[] lastHeard = new int[MEMBERS * MEMBERS];

        /** All as at first, but for SIZE, RATE, MIN and THE LOT, which a MEETING tells itself. */
        void restart() {
            clock = 0;
            reports = 0;
            byes = 0;
            for (int m = 0; m < MEMBERS; m++) {
                goAway(m);
                shut[m] = 0;
            }
        }

        void takeFrom(Crowd other) {
            size = other.size;
            rate = other.rate;
            min = other.min;
            clock = other.clock;
            lot = other.lot;
            reports = other.reports;
            byes = other.byes;
            System.arraycopy(other.kind, 0, kind, 0, MEMBERS);
            System.arraycopy(other.known, 0, known, 0, MEMBERS);
            System.arraycopy(other.begun, 0, begun, 0, MEMBERS);
            System.arraycopy(other.due, 0, due, 0, MEMBERS);
            System.arraycopy(other.goers, 0, goers, 0, MEMBERS);
            System.arraycopy(other.shut, 0, shut, 0, MEMBERS);
            System.arraycopy(other.lastHeard, 0, lastHeard, 0, MEMBERS * MEMBERS);
        }

        int sent() {
            return reports + byes;
        }

        int bitsOf(int wanted) {
            int bits = 0;
            for (int m = 0; m < MEMBERS; m++) {
                if (kind[m] == wanted) {
                    bits |= 1 << m;
                }
            }
            return bits;
        }

        boolean knows(int member, int other) {
            return (known[member] >> other & 1) != 0;
        }

        boolean isOpen(int from, int to) {
            return (shut[from] >> to & 1) == 0;
        }

        int countOf(int member) {
            return 1 + Integer.bitCount(known[member]);
        }

        int countTold(int member) {
            return kind[member] == AWAY ? 0 : countOf(member);
        }

        boolean isAtRest() {
            int there = bitsOf(THERE);
            for (int m = 0; m < MEMBERS; m++) {
                if (kind[m] == LEAVING || kind[m] == THERE && known[m] != (there & ~(1 << m))) {
                    return false;
                }
            }
            return true;
        }

        /** Those that are not AWAY, or that somebody KNOWS. */
        int feltBits() {
            int bits = 0;
            for (int m = 0; m < MEMBERS; m++) {
                bits |= known[m];
                if (kind[m] != AWAY) {
                    bits |= 1 << m;
                }
            }
            return bits;
        }

        /** All but these are AWAY, and nobody KNOWS them. */
        void leaveOnly(int bits) {
            for (int m = 0; m < MEMBERS; m++) {
                known[m] &= bits;
                if ((bits >> m & 1) == 0) {
                    goAway(m);
                }
            }
        }

        /** TURNED; false: there is no WAY from one to itself. */
        boolean turnWay(int from, int to) {
            if (from == to) {
                return false;
            }
            shut[from] ^= 1 << to;
            return true;
        }

        int tellAnew(int what, int v) {
            int was;
            if (what == 0) {
                was = size;
                size = v;
            } else if (what == 1) {
                was = rate;
                rate = v;
            } else {
                was = min;
                min = v;
            }
            return was;
        }

        /** T of a COUNT: how long it is between two REPORTS in the mean. */
        int spanOf(int count) {
            int divisor = Math.max(1, rate);
            return Math.max(min, (count * size + divisor - 1) / divisor);
        }

        /** A WAIT, with its DRAW. */
        int waitOf(int count) {
            lot = (25173 * lot + 13849) % 65536;
            int draw = lot / 16 % 5;
            return Math.max(1, spanOf(count) * (2 + draw) / 4);
        }

        void begin(int member) {
            begun[member] = clock;
            due[member] = clock + waitOf(1);
        }

        void goAway(int member) {
            kind[member] = AWAY;
            known[member] = 0;
            begun[member] = 0;
            due[member] = 0;
            goers[member] = 0;
        }

        /** JOINS; false: there is no such MEMBER, or it is not AWAY. */
        boolean enter(int member) {
            if (!isMember(member) || kind[member] != AWAY) {
                return false;
            }
            kind[member] = THERE;
            begin(member);
            return true;
        }

        /** LEAVES; false: there is no such MEMBER, or it is not THERE. */
        boolean depart(int member) {
            if (!isMember(member) || kind[member] != THERE) {
                return false;
            }
            if (countOf(member) <= 3) {
                sendBye(member);
            } else {
                kind[member] = LEAVING;
                goers[member] = 1;
                begin(member);
            }
            return true;
        }

        void enterOrDepart(int member) {
            if (!enter(member)) {
                depart(member);
            }
        }

        /** So many TICKS: how many LETTERS are sent in them. */
        int run(int ticks) {
            int before = sent();
            for (int t = 0; t < ticks; t++) {
                clock++;
                for (int m = 0; m < MEMBERS; m++) {
                    if (kind[m] != AWAY && due[m] <= clock) {
                        comeDue(m);
                    }
                }
                for (int m = 0; m < MEMBERS; m++) {
                    if (kind[m] == THERE && known[m] != 0) {
                        forgetOld(m);
                    }
                }
            }
            return sent() - before;
        }

        /** The time that was drawn has come: it is looked at again by what is known by now. */
        void comeDue(int member) {
            boolean leaves = kind[member] == LEAVING;
            int wait = waitOf(leaves ? goers[member] : countOf(member));
            if (begun[member] + wait > clock) {
                due[member] = begun[member] + wait;
            } else if (leaves) {
                sendBye(member);
            } else {
                sendReport(member);
                begun[member] = clock;
                due[member] = clock + waitOf(countOf(member));
            }
        }

        void forgetOld(int member) {
            int longest = 5 * spanOf(countOf(member));
            for (int other = 0; other < MEMBERS; other++) {
                int ago = clock - lastHeard[member * MEMBERS + other];
                if (knows(member, other) && ago > longest) {
                    known[member] &= ~(1 << other);
                }
            }
        }

        boolean reaches(int from, int to) {
            return from != to && kind[to] != AWAY && isOpen(from, to);
        }

        void sendReport(int sender) {
            reports++;
            for (int m = 0; m < MEMBERS; m++) {
                if (reaches(sender, m)) {
                    known[m] |= 1 << sender;
                    lastHeard[m * MEMBERS + sender] = clock;
                }
            }
        }

        void sendBye(int sender) {
            byes++;
            goAway(sender);
            for (int m = 0; m < MEMBERS; m++) {
                if (reaches(sender, m)) {
                    hearBye(m, sender);
                }
            }
        }

        void hearBye(int member, int sender) {
            if (kind[member] == LEAVING) {
                goers[member]++;
            }
            if (!knows(member, sender)) {
                return;
            }
            int was = countOf(member);
            int count = was - 1;
            known[member] &= ~(1 << sender);
            if (kind[member] == THERE) {
                due[member] = clock + Math.max(0, due[member] - clock) * count / was;
                begun[member] = clock - (clock - begun[member]) * count / was;
            }
        }
    }
}

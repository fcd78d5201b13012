/** The edges of THE LOT, a DRAW, a WAIT, T, and of what comes due. */
public final class WaitEdgesTest {
    private static final Check CHECK = new Check();

    private static int lotBehind(int lot, int draws) {
        int at = lot;
        for (int i = 0; i < draws; i++) {
            at = Check.nextLot(at);
        }
        return at;
    }

    private static int drawnBy(int lot) {
        return lot / 16 % 5;
    }

    private static String head(int size, int rate, int min, int lot) {
        return "M" + size + rate + min + lot / 100 + lot / 10 % 10 + lot % 10;
    }

    /** One alone with a T of 1 makes two DRAWS in each TICK, and one as it joins. */
    private static CrowdReports aloneAt(int lot, int ticks) {
        CrowdReports x = Check.met(head(1, 1, 1, lot) + "j0");
        Check.passAll(x, ticks);
        return x;
    }

    /** Looks for a first LOT and so many TICKS by which THE LOT becomes a wanted one. */
    private static void lotBecomes(int wanted) {
        for (int lot = 0; lot <= 999; lot++) {
            for (int ticks = 1; ticks <= 400; ticks++) {
                if (lotBehind(lot, 1 + 2 * ticks) == wanted) {
                    CrowdReports x = aloneAt(lot, ticks);
                    CHECK.due("THE LOT", x.about(4), wanted);
                    CHECK.due("THE LOT, asked", x.ahead(0, 3), wanted);
                    CHECK.due("THE LOT a TICK ahead", x.ahead(1, 3), lotBehind(wanted, 2));
                    x.pass(1);
                    CHECK.due("THE LOT a TICK on", x.about(4), lotBehind(wanted, 2));
                    return;
                }
            }
        }
        CHECK.holds("THE LOT can become " + wanted, false);
    }

    private static void lotWraps() {
        CHECK.due("what comes behind 65535", Check.nextLot(65535), 54212);
        CHECK.due("what comes behind 0", Check.nextLot(0), 13849);
        lotBecomes(65535);
        lotBecomes(65534);
        lotBecomes(0);
        lotBecomes(1);
    }

    private static void lotStaysInItsBounds() {
        CrowdReports x = Check.met("M111000j0");
        int lot = Check.nextLot(0);
        for (int i = 0; i < 240; i++) {
            x.pass(30);
            lot = lotBehind(lot, 60);
            CHECK.due("THE LOT behind " + (i + 1) * 30 + " TICKS", x.about(4), lot);
        }
    }

    /** T is 9: a WAIT is 4, 6, 9, 11 or 13 by what is drawn, 0 .. 4. */
    private static void eachDraw() {
        int[] waits = {4, 6, 9, 11, 13};
        int[] met = new int[5];
        for (int lot = 0; lot <= 999; lot++) {
            CrowdReports x = Check.met(head(9, 1, 1, lot));
            int drawn = drawnBy(Check.nextLot(lot));
            met[drawn]++;
            CHECK.due("DUE by THE LOT " + lot, x.join(lot % 6), waits[drawn]);
            CHECK.due("one DRAW", x.about(4), Check.nextLot(lot));
        }
        for (int drawn = 0; drawn <= 4; drawn++) {
            CHECK.holds("drawn: " + drawn, met[drawn] > 0);
        }
    }

    /** A first LOT by which just this is drawn first. */
    private static int lotFor(int drawn) {
        int lot = 0;
        while (drawnBy(Check.nextLot(lot)) != drawn) {
            lot++;
        }
        return lot;
    }

    /** T is the greater of MIN and SIZE by RATE (up); a WAIT is cut, and 1 at least. */
    private static void eachSizeRateMin() {
        for (int drawn = 0; drawn <= 4; drawn++) {
            int lot = lotFor(drawn);
            for (int size = 1; size <= 9; size++) {
                for (int rate = 1; rate <= 9; rate++) {
                    for (int min = 1; min <= 9; min++) {
                        int up = size / rate + (size % rate == 0 ? 0 : 1);
                        int quarters = (up > min ? up : min) * (2 + drawn);
                        int wait = quarters < 4 ? 1 : quarters / 4;
                        String text = head(size, rate, min, lot);
                        CHECK.due("DUE of " + text, Check.met(text).join(5), wait);
                    }
                }
            }
        }
    }

    /** A DUE is looked at when it comes: a WAIT up to THE CLOCK sends, one more does not. */
    private static void lookedAtWhenItComes() {
        int[] waits = {4, 6, 9, 11, 13};
        boolean[] sentByEqual = new boolean[5];
        for (int lot = 0; lot <= 999; lot++) {
            CrowdReports x = Check.met(head(9, 1, 1, lot));
            int due = x.join(0);
            int[] drawn = {drawnBy(lotBehind(lot, 1)), drawnBy(lotBehind(lot, 2)), drawnBy(lotBehind(lot, 3))};
            CHECK.due("nothing ahead of DUE", x.pass(due - 1), 0);
            CHECK.due("no DRAW ahead of DUE", x.about(4), lotBehind(lot, 1));
            boolean sends = drawn[1] <= drawn[0];
            sentByEqual[drawn[0]] |= drawn[1] == drawn[0];
            CHECK.due("LETTERS at DUE by " + lot, x.pass(1), sends ? 1 : 0);
            CHECK.due("DRAWS at DUE", x.about(4), lotBehind(lot, sends ? 3 : 2));
            CHECK.due("BEGUN", x.member(0, 3), sends ? due : 0);
            CHECK.due("DUE", x.member(0, 4), sends ? due + waits[drawn[2]] : waits[drawn[1]]);
        }
        for (int drawn = 0; drawn <= 4; drawn++) {
            CHECK.holds("a WAIT that is just THE CLOCK, " + drawn, sentByEqual[drawn]);
        }
    }

    /** Members, by number: how many come due in the next TICK, and the last of them. */
    private static int onlyOneDue(CrowdReports x) {
        int only = -1;
        for (int m = 0; m < 6; m++) {
            if (x.member(m, 0) != 0 && x.member(m, 4) <= x.about(3) + 1) {
                only = only == -1 ? m : -2;
            }
        }
        return only;
    }

    /** COUNT goes from 1 (it KNOWS none) to 6 (all): T is 9 .. 54, a WAIT 4 .. 81. */
    private static void waitsByCount() {
        boolean[] metCount = new boolean[7];
        for (int lot = 0; lot < 400; lot++) {
            CrowdReports x = Check.met(head(9, 1, 1, lot) + "j0j1j2j3j4j5" + "9".repeat(lot % 12));
            for (int i = 0; i < 15; i++) {
                int m = onlyOneDue(x);
                if (m < 0) {
                    x.pass(1);
                    continue;
                }
                int count = x.member(m, 2);
                int begun = x.member(m, 3);
                int first = Check.nextLot(x.about(4));
                int wait = 9 * count * (2 + drawnBy(first)) / 4;
                int sent = x.pass(1);
                boolean sends = begun + wait <= x.about(3);
                int another = 9 * count * (2 + drawnBy(Check.nextLot(first))) / 4;
                CHECK.due("sent with COUNT " + count, sent, sends ? 1 : 0);
                CHECK.due("DUE by COUNT " + count, x.member(m, 4), sends ? x.about(3) + another : begun + wait);
                metCount[count] = true;
            }
        }
        for (int count = 1; count <= 6; count++) {
            CHECK.holds("a WAIT of COUNT " + count, metCount[count]);
        }
    }

    /** All know all: T of COUNT 6 is 54, so the longest WAIT is 81 and the shortest 27. */
    private static void longestWait() {
        CrowdReports x = Check.met("M911000j0j1j2j3j4j5999999999");
        for (int m = 0; m < 6; m++) {
            CHECK.due("COUNT of all", x.member(m, 2), 6);
        }
        boolean shortest = false;
        boolean longest = false;
        for (int i = 0; i < 25; i++) {
            x.pass(27);
            for (int m = 0; m < 6; m++) {
                int wait = x.member(m, 4) - x.member(m, 3);
                CHECK.holds("a WAIT of 6: " + wait,
                    wait == 27 || wait == 40 || wait == 54 || wait == 67 || wait == 81);
                shortest |= wait == 27;
                longest |= wait == 81;
            }
        }
        CHECK.holds("both ends were met", shortest && longest);
    }

    public static void main(String[] args) {
        lotWraps();
        lotStaysInItsBounds();
        eachDraw();
        eachSizeRateMin();
        lookedAtWhenItComes();
        waitsByCount();
        longestWait();
        CHECK.end();
    }
}

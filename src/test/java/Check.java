/** Counts the answers that are not as due, and ends a test with exit code 1 if there was one. */
final class Check {
    private int asked = 0;
    private int wrong = 0;

    void due(String call, long got, long want) {
        asked++;
        if (got != want) {
            wrong++;
            if (wrong <= 20) {
                System.out.println(call + " answered " + got + ", due is " + want);
            }
        }
    }

    void holds(String claim, boolean so) {
        asked++;
        if (!so) {
            wrong++;
            System.out.println("not so: " + claim);
        }
    }

    void end() {
        System.out.println(asked + " answers, " + wrong + " not as due");
        if (wrong != 0 || asked == 0) {
            System.exit(1);
        }
    }

    static CrowdReports written(String text) {
        CrowdReports x = new CrowdReports();
        write(x, text);
        return x;
    }

    /** A new object with this MEETING. */
    static CrowdReports met(String text) {
        CrowdReports x = written(text);
        if (x.meeting() < 0) {
            throw new IllegalStateException("no MEETING: " + text);
        }
        return x;
    }

    static void write(CrowdReports x, String text) {
        x.wipe();
        for (char letter : text.toCharArray()) {
            x.write(letter);
        }
    }

    /** THE LOT behind one DRAW, told once more. */
    static int nextLot(int lot) {
        return (int) ((25173L * lot + 13849L) % 65536L);
    }

    static void passAll(CrowdReports x, int ticks) {
        for (int left = ticks; left > 0; left -= 30) {
            x.pass(Math.min(30, left));
        }
    }

    /** All that can be asked without a change, as one text: two objects are told apart by it. */
    static String all(CrowdReports x) {
        StringBuilder told = new StringBuilder();
        for (int what = 0; what <= 12; what++) {
            told.append(x.about(what)).append(' ');
        }
        told.append("| ").append(x.fault()).append(' ').append(x.which());
        for (int m = 0; m < 6; m++) {
            told.append(" |");
            for (int what = 0; what <= 5; what++) {
                told.append(' ').append(x.member(m, what));
            }
            for (int o = 0; o < 6; o++) {
                told.append(' ').append(x.heard(m, o)).append('/').append(x.way(m, o));
            }
        }
        long seed = x.seed(0);
        x.seed(seed);
        return told.append(" | ").append(seed).toString();
    }

    /** All but ACTS, SEEN, THE TEXT and THE SEED: what is undone and kept. */
    static String kept(CrowdReports x) {
        StringBuilder told = new StringBuilder();
        for (int what = 0; what <= 9; what++) {
            told.append(x.about(what)).append(' ');
        }
        String whole = all(x);
        return told.append(whole, whole.indexOf(" |", whole.indexOf('|') + 1), whole.lastIndexOf('|'))
            .toString();
    }
}

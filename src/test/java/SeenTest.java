/** Promises 21 to 23: see, unsee, which. */
public final class SeenTest {
    private static final Check CHECK = new Check();

    private static void which(CrowdReports x, int k, int n, int want) {
        x.unsee();
        x.see(k, n);
        CHECK.due("which by " + n + " in " + k, x.which(), want);
    }

    /**
     * By hand. One that joined at 0 has its DUE at 4; T is 9, 5, 3, 3, 2, 2, 2, 2, 1 by the RATES
     * 1 .. 9; what is drawn from there on: 1 1 3 0.
     */
    private static void ratesByHand() {
        CrowdReports x = Check.met("M911000j0");
        String before = Check.kept(x);
        CHECK.due("nothing SEEN", x.which(), 1022);
        which(x, 0, 0, 1022);
        which(x, 0, 1, 0);
        which(x, 3, 0, 1022);
        which(x, 4, 0, 2);
        which(x, 4, 1, 1020);
        which(x, 6, 0, 0);
        which(x, 6, 1, 30);
        which(x, 6, 2, 480);
        which(x, 6, 3, 512);
        which(x, 6, 4, 0);
        which(x, 60, 57, 512);
        which(x, 60, 99, 0);
        CHECK.holds("which changes nothing", before.equals(Check.kept(x)));
    }

    private static void severalSeen() {
        CrowdReports x = Check.met("M911000j0");
        x.see(4, 1);
        CHECK.due("by one", x.which(), 1020);
        x.see(6, 2);
        CHECK.due("by two", x.which(), 480);
        x.see(6, 2);
        CHECK.due("by the same once more", x.which(), 480);
        x.see(6, 3);
        CHECK.due("by one that can not be with them", x.which(), 0);
        CHECK.due("unsee", x.unsee(), 4);
        CHECK.due("all again", x.which(), 1022);
    }

    private static void asItIsWhenAsked() {
        CrowdReports x = Check.met("M911000j0");
        x.see(1, 0);
        CHECK.due("now", x.which(), 1022);
        x.pass(3);
        CHECK.due("at 3", x.which(), 2);
        x.leave(0);
        CHECK.due("nobody there", x.which(), 1022);
        x.set(1, 5);
        CHECK.due("RATE as it is does not matter", x.which(), 1022);
        CHECK.due("SEEN stays", x.about(11), 1);
    }

    private static void countsAndRefusals() {
        CrowdReports x = new CrowdReports();
        CHECK.due("unsee nothing", x.unsee(), 0);
        CHECK.due("k 61", x.see(61, 0), -2);
        CHECK.due("k -1", x.see(-1, 0), -2);
        CHECK.due("n 100", x.see(0, 100), -2);
        CHECK.due("n -1", x.see(0, -1), -2);
        CHECK.due("refused", x.about(11), 0);
        CHECK.due("the most", x.see(60, 99), 1);
        x.unsee();
        for (int i = 1; i <= 6; i++) {
            CHECK.due("see", x.see(i, 0), i);
        }
        CHECK.due("a seventh", x.see(1, 1), -4);
        CHECK.due("a bad seventh", x.see(61, 1), -2);
        CHECK.due("which", x.which(), 1022);
        CHECK.due("unsee six", x.unsee(), 6);
        CHECK.due("unsee again", x.unsee(), 0);
        CHECK.due("see behind unsee", x.see(0, 1), 1);
        CHECK.due("which behind unsee", x.which(), 0);
    }

    public static void main(String[] args) {
        ratesByHand();
        severalSeen();
        asItIsWhenAsked();
        countsAndRefusals();
        CHECK.end();
    }
}

/** Promises 28 and 29: keep, again. */
public final class SlotsTest {
    private static final Check CHECK = new Check();

    private static void keptAndGoneOn() {
        CrowdReports x = Check.met("M221007j0j1j2j3999l0");
        x.turn(1, 2);
        x.set(0, 3);
        String kept = Check.kept(x);
        CHECK.due("keep 0", x.keep(0), 27);
        CHECK.due("keep is no ACT", x.about(10), 2);
        x.pass(7);
        x.turn(1, 2);
        CHECK.due("again 0", x.again(0), 27);
        CHECK.holds("all is as it was kept", kept.equals(Check.kept(x)));
        CHECK.due("no ACTS", x.about(10), 0);
        CHECK.due("undo", x.undo(), -3);
        x.pass(3);
        CHECK.due("again 0 once more", x.again(0), 27);
        CHECK.holds("what was kept does not go on", kept.equals(Check.kept(x)));
    }

    private static void bothSlots() {
        CrowdReports x = Check.met("M221007j0j1j2j3999l0");
        CHECK.due("keep 0", x.keep(0), 27);
        x.pass(5);
        x.join(5);
        String second = Check.kept(x);
        CHECK.due("keep 1", x.keep(1), 32);
        x.pass(7);
        CHECK.due("again 0", x.again(0), 27);
        CHECK.due("again 1", x.again(1), 32);
        CHECK.holds("the other one", second.equals(Check.kept(x)));
        x.pass(1);
        CHECK.due("keep 0 anew", x.keep(0), 33);
        x.pass(1);
        CHECK.due("again what was kept last", x.again(0), 33);
        CHECK.due("again the other one", x.again(1), 32);
    }

    private static void notKept() {
        CrowdReports x = Check.met("M111000j0");
        x.keep(1);
        x.see(1, 1);
        x.seed(9);
        x.write('3');
        CHECK.due("again", x.again(1), 0);
        CHECK.due("SEEN stays", x.about(11), 1);
        CHECK.due("THE TEXT stays", x.about(12), 10);
        CHECK.due("THE SEED stays", x.seed(0), 9);
    }

    private static void notUndone() {
        CrowdReports x = new CrowdReports();
        x.join(0);
        x.pass(4);
        x.keep(0);
        x.undo();
        x.undo();
        CHECK.due("at first", x.about(7), 0);
        CHECK.due("what was kept stays", x.again(0), 4);
        CHECK.due("THERE", x.about(7), 1);
    }

    private static void refused() {
        CrowdReports x = new CrowdReports();
        CHECK.due("keep 2", x.keep(2), -1);
        CHECK.due("keep -1", x.keep(-1), -1);
        CHECK.due("again 2", x.again(2), -1);
        CHECK.due("again -1", x.again(-1), -1);
        CHECK.due("again 33", x.again(33), -1);
        CHECK.due("again 0", x.again(0), -3);
        x.keep(0);
        CHECK.due("again 1", x.again(1), -3);
        CHECK.due("again 0", x.again(0), 0);
    }

    public static void main(String[] args) {
        keptAndGoneOn();
        bothSlots();
        notKept();
        notUndone();
        refused();
        CHECK.end();
    }
}

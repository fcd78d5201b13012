/** Promises 1 to 5: a new object, write, wipe, fault, meeting. */
public final class TextTest {
    private static final Check CHECK = new Check();

    private static void faultOf(String text, int want) {
        CrowdReports x = Check.written(text);
        CHECK.due("fault of \"" + text + "\"", x.fault(), want);
        CHECK.due("meeting of \"" + text + "\"", x.meeting() == CrowdReports.LATE ? 1 : 0, want == -9 ? 0 : 1);
    }

    private static void newObject() {
        CrowdReports x = new CrowdReports();
        int[] first = {1, 1, 1, 0, 0, 0, 0, 0, 0, 0, 0, 0, 0};
        for (int what = 0; what < first.length; what++) {
            CHECK.due("new: about " + what, x.about(what), first[what]);
        }
        for (int m = 0; m < 6; m++) {
            for (int what = 0; what <= 5; what++) {
                CHECK.due("new: member " + m + " " + what, x.member(m, what), 0);
            }
            for (int o = 0; o < 6; o++) {
                CHECK.due("new: heard", x.heard(m, o), -9);
                CHECK.due("new: way", x.way(m, o), m == o ? -2 : 1);
            }
        }
        CHECK.due("new: which", x.which(), 1022);
        CHECK.due("new: seed", x.seed(4), 0);
        CHECK.due("new: undo", x.undo(), -3);
        CHECK.due("new: again 0", x.again(0), -3);
        CHECK.due("new: again 1", x.again(1), -3);
    }

    private static void writeAndWipe() {
        CrowdReports x = new CrowdReports();
        CHECK.due("write -1", x.write(-1), -2);
        CHECK.due("write 256", x.write(256), -2);
        CHECK.due("write least", x.write(Integer.MIN_VALUE), -2);
        CHECK.due("refused: length", x.about(12), 0);
        CHECK.due("wipe nothing", x.wipe(), 0);
        CHECK.due("write 0", x.write(0), 1);
        CHECK.due("write 255", x.write(255), 2);
        CHECK.due("fault of odd letters", x.fault(), 0);
        for (int n = 3; n <= 60; n++) {
            CHECK.due("write " + n, x.write('1'), n);
        }
        CHECK.due("write 61st", x.write('1'), -4);
        CHECK.due("write bad 61st", x.write(256), -2);
        CHECK.due("length stays", x.about(12), 60);
        CHECK.due("wipe 60", x.wipe(), 60);
        CHECK.due("wipe again", x.wipe(), 0);
        CHECK.due("write behind wipe", x.write('M'), 1);
        CHECK.due("fault: only not at its end", x.fault(), 1);
    }

    private static void wipedLettersAreGone() {
        CrowdReports x = Check.written("M111000j0");
        for (int n = 0; n <= 8; n++) {
            Check.write(x, "M111000j0".substring(0, n));
            CHECK.due("fault of the first " + n, x.fault(), n == 7 ? -9 : n);
        }
    }

    private static void faults() {
        String head = "M111000";
        for (int n = 0; n < 7; n++) {
            faultOf(head.substring(0, n), n);
            faultOf(head.substring(0, n) + "x" + head.substring(n), n);
        }
        faultOf(head, -9);
        faultOf("m111000", 0);
        faultOf("M011000", 1);
        faultOf("M101000", 2);
        faultOf("M110000", 3);
        faultOf("M999999", -9);
        faultOf("M11100:", 6);
        faultOf("M1110/0", 5);
        faultOf("M:11000", 1);
        faultOf(head + "0", 7);
        faultOf(head + "9", -9);
        faultOf(head + ":", 7);
        faultOf(head + "J", 7);
        faultOf(head + " ", 7);
        faultOf(head + "j", 8);
        faultOf(head + "jj", 8);
        faultOf(head + "j/", 8);
        faultOf(head + "j6", 8);
        faultOf(head + "j5", -9);
        faultOf(head + "j0j0", 10);
        faultOf(head + "l", 7);
        faultOf(head + "l0", 7);
        faultOf(head + "j1l", 10);
        faultOf(head + "j1l0", 10);
        faultOf(head + "j1l1", -9);
        faultOf(head + "j1l1l", 11);
        faultOf(head + "j1l1j1", -9);
        faultOf(head + "j0j1j2j3j4j5j", 19);
        faultOf(head + "j0j1j2j3j4j5j0", 19);
        faultOf(head + "j0j1j2j3j4j5l", 20);
        faultOf(head + "j0j1j2j3j4j5l3j3", -9);
        faultOf("M111000x111", 7);
    }

    /** One that is LEAVING is neither AWAY nor THERE: the reader must know how long it waits. */
    private static void faultsWhileLeaving() {
        String start = "M914999j0j1j2j3j4j599999l0";
        faultOf(start, -9);
        faultOf(start + "j", start.length());
        faultOf(start + "l", start.length() + 1);
        faultOf(start + "l0", start.length() + 1);
        faultOf(start + "l1", -9);
        faultOf(start + "999999j0", -9);
        faultOf(start + "l1l2l3l4l5", -9);
        faultOf(start + "l1l2l3l4l5l", start.length() + 10);
        faultOf(start + "l1l2l3l4l5j", start.length() + 10);
    }

    private static void lengthIsSetAside() {
        String full = "M111000" + "9".repeat(52) + "j";
        CHECK.due("a text of 60", full.length(), 60);
        faultOf(full, 60);
        faultOf("M111000" + "1".repeat(53), -9);
    }

    private static void meetings() {
        CrowdReports x = Check.written("M345678");
        CHECK.due("meeting without EVENTS", x.meeting(), 0);
        CHECK.due("SIZE", x.about(0), 3);
        CHECK.due("RATE", x.about(1), 4);
        CHECK.due("MIN", x.about(2), 5);
        CHECK.due("THE LOT", x.about(4), 678);
        CHECK.due("THE TEXT stays", x.about(12), 7);
        CHECK.due("a MEETING with the most TICKS", Check.met("M111000" + "9".repeat(53)).about(3), 477);
    }

    private static void meetingStartsAnew() {
        CrowdReports x = Check.written("M222005j045j1");
        x.set(0, 7);
        x.join(3);
        x.join(4);
        x.turn(3, 4);
        x.pass(20);
        x.keep(0);
        x.keep(1);
        x.see(3, 1);
        x.seed(77);
        x.leave(4);
        x.crowd(99);
        CHECK.due("meeting", x.meeting(), 9);
        CHECK.due("again 0 behind a meeting", x.again(0), -3);
        CHECK.due("again 1 behind a meeting", x.again(1), -3);
        CHECK.due("undo behind a meeting", x.undo(), -3);
        CHECK.due("SEEN stays", x.about(11), 1);
        CHECK.due("THE SEED stays", x.seed(0), 77);
        x.unsee();
        CHECK.holds("all is as at first but for the EVENTS",
            Check.all(x).equals(Check.all(Check.met("M222005j045j1"))));
    }

    private static void lateMeetingChangesNothing() {
        CrowdReports x = Check.met("M222005j045j1");
        x.keep(0);
        x.join(5);
        Check.write(x, "M333111j0j0");
        String before = Check.all(x);
        CHECK.due("late meeting", x.meeting(), -3);
        CHECK.holds("a late meeting changes nothing", before.equals(Check.all(x)));
        CHECK.due("the ACT can still be undone", x.undo(), 0);
        CHECK.due("what was kept is still there", x.again(0), 9);
    }

    public static void main(String[] args) {
        newObject();
        writeAndWipe();
        wipedLettersAreGone();
        faults();
        faultsWhileLeaving();
        lengthIsSetAside();
        meetings();
        meetingStartsAnew();
        lateMeetingChangesNothing();
        CHECK.end();
    }
}

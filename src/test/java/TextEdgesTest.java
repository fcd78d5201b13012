/** The edges of THE TEXT: each letter at each place, empty and full, and the least and longest MEETING. */
public final class TextEdgesTest {
    private static final Check CHECK = new Check();
    private static final String HEAD = "M111000";

    private static String shown(String text) {
        char last = text.isEmpty() ? ' ' : text.charAt(text.length() - 1);
        return "\"" + text + "\" (its last letter: " + (int) last + ")";
    }

    private static void faultOf(String text, int want) {
        CrowdReports x = Check.written(text);
        CHECK.due("fault of " + shown(text), x.fault(), want);
        CHECK.due("meeting of " + shown(text), x.meeting() == -3 ? 1 : 0, want == -9 ? 0 : 1);
    }

    /** Of the 256 letters just these may come behind a start, and the text ends well by them or not. */
    private static void behind(String start, String ends, String goesOn) {
        for (char letter = 0; letter <= 255; letter++) {
            String text = start + letter;
            int want = start.length();
            if (ends.indexOf(letter) >= 0) {
                want = -9;
            } else if (goesOn.indexOf(letter) >= 0) {
                want = text.length();
            }
            faultOf(text, want);
        }
    }

    private static void lettersOfTheHead() {
        behind("", "", "M");
        behind("M", "", "123456789");
        behind("M1", "", "123456789");
        behind("M19", "", "123456789");
        behind("M191", "", "0123456789");
        behind("M1919", "", "0123456789");
        behind("M19190", "0123456789", "");
    }

    private static void lettersOfEvents() {
        behind(HEAD, "123456789", "j");
        behind(HEAD + "j", "012345", "");
        behind(HEAD + "j0", "123456789", "jl");
        behind(HEAD + "j0j", "12345", "");
        behind(HEAD + "j5j", "01234", "");
        behind(HEAD + "j0l", "0", "");
        behind(HEAD + "j5l", "5", "");
        behind(HEAD + "j0l0", "123456789", "j");
        behind(HEAD + "j0l0j", "012345", "");
        behind(HEAD + "j0j1j2j3j4j5", "123456789", "l");
        behind(HEAD + "j0j1j2j3j4j5l", "012345", "");
        behind(HEAD + "j0j1j2j3j4j5l3", "123456789", "jl");
        behind(HEAD + "j0j1j2j3j4j5l3j", "3", "");
        behind(HEAD + "9", "123456789", "j");
    }

    /** One that is LEAVING is neither AWAY nor THERE. */
    private static void lettersWhileLeaving() {
        String all = "M914999j0j1j2j3j4j599999l0";
        behind(all, "123456789", "l");
        behind(all + "l", "12345", "");
        behind(all + "l1l2l3l4l5", "123456789", "");
    }

    /** "The first letter by which THE TEXT can be no MEETING, whatever came behind it". */
    private static void theFirstFaultCounts() {
        faultOf("m0000000", 0);
        faultOf("M0x", 1);
        faultOf("M10x", 2);
        faultOf("M110x", 3);
        faultOf("M111xxx", 4);
        faultOf(HEAD + "0j0j0", 7);
        faultOf(HEAD + "j0j0l0", 10);
        faultOf(HEAD + "l0j0", 7);
        faultOf(HEAD + "j6j7", 8);
    }

    private static void emptyAndNotAtItsEnd() {
        faultOf("", 0);
        for (int n = 1; n < HEAD.length(); n++) {
            faultOf(HEAD.substring(0, n), n);
        }
        faultOf(HEAD, -9);
        faultOf(HEAD + "j", 8);
        faultOf(HEAD + "j0l", 10);
    }

    /** Never more than 60 letters; FAULT sets the length aside. */
    private static void full() {
        faultOf(HEAD + "9".repeat(53), -9);
        faultOf(HEAD + "j0l0".repeat(13) + "9", -9);
        faultOf(HEAD + "9".repeat(52) + "j", 60);
        faultOf(HEAD + "j0" + "9".repeat(50) + "l", 60);
        faultOf(HEAD + "9".repeat(52) + "l", 59);
        faultOf(HEAD + "9".repeat(52) + "0", 59);
        faultOf(HEAD + "9".repeat(51) + "jj", 59);
        faultOf(HEAD + "9".repeat(51) + "j5", -9);
    }

    private static void writeEachLetter() {
        for (int letter = 0; letter <= 255; letter++) {
            CHECK.due("write " + letter, new CrowdReports().write(letter), 1);
        }
    }

    private static void writeUpToFull() {
        CrowdReports x = new CrowdReports();
        CHECK.due("wipe an empty one", x.wipe(), 0);
        for (int n = 1; n <= 60; n++) {
            CHECK.due("write", x.write(n % 2 == 0 ? 255 : 0), n);
            CHECK.due("letters", x.about(12), n);
        }
        CHECK.due("the 61st", x.write(0), -4);
        CHECK.due("letters stay", x.about(12), 60);
        CHECK.due("wipe 60", x.wipe(), 60);
        CHECK.due("letters", x.about(12), 0);
        CHECK.due("wipe once more", x.wipe(), 0);
        CHECK.due("the first again", x.write(255), 1);
        CHECK.due("wipe one", x.wipe(), 1);
    }

    /** What was refused is no letter of THE TEXT. */
    private static void refusedLettersAreNotWritten() {
        CrowdReports x = new CrowdReports();
        for (char letter : HEAD.toCharArray()) {
            x.write(-1);
            x.write(letter);
            x.write(256 + '0');
        }
        CHECK.due("letters", x.about(12), 7);
        CHECK.due("fault", x.fault(), -9);
        CrowdReports y = Check.written(HEAD + "9".repeat(53));
        y.write('x');
        CHECK.due("the letter that was too much", y.fault(), -9);
        CHECK.due("its meeting", y.meeting(), 477);
    }

    private static void met(String text, int... firstFive) {
        CrowdReports x = Check.written(text);
        CHECK.due("meeting of " + text, x.meeting(), firstFive[3]);
        for (int what = 0; what < 5; what++) {
            CHECK.due(text + ": about " + what, x.about(what), firstFive[what]);
        }
        CHECK.due(text + ": THE TEXT stays", x.about(12), text.length());
    }

    private static void leastAndMost() {
        met("M111000", 1, 1, 1, 0, 0);
        met("M999999", 9, 9, 9, 0, 999);
        met("M191009", 1, 9, 1, 0, 9);
        met("M919090", 9, 1, 9, 0, 90);
        met("M159900", 1, 5, 9, 0, 900);
        met("M1110001", 1, 1, 1, 1, 0);
        met("M1110009", 1, 1, 1, 9, 0);
        met("M111000" + "9".repeat(53), 1, 1, 1, 477, 0);
    }

    /** The 53 letters behind the head are 13 times joining and leaving, which are no ACTS. */
    private static void eventsAreNoActs() {
        CrowdReports x = Check.met(HEAD + "j0l0".repeat(13));
        CHECK.due("BYES", x.about(6), 13);
        CHECK.due("ACTS", x.about(10), 0);
        CHECK.due("undo", x.undo(), -3);
        CHECK.due("THERE", x.about(7), 0);
        CHECK.due("all six", Check.met(HEAD + "j0j1j2j3j4j5").about(7), 63);
        CHECK.due("one by one away again", Check.met(HEAD + "j0j1j2j3j4j5l5l4l3l2l1l0").about(7), 0);
    }

    /** "All as at first": of the MEETING ahead nothing is left, 14 ACTS and both SLOTS included. */
    private static void allAsAtFirst() {
        CrowdReports x = Check.met("M992999j0j1j2j3j4j5l599999l3l4");
        CHECK.due("BYES", x.about(6), 1);
        CHECK.due("LEAVING", x.about(8), 24);
        for (int m = 0; m < 5; m++) {
            x.turn(m, 5);
            x.turn(5, m);
            x.set(m % 3, 9);
        }
        x.keep(0);
        x.keep(1);
        CHECK.due("ACTS", x.about(10), 14);
        CHECK.holds("BYES ahead", x.ahead(30, 1) > 1);
        Check.write(x, HEAD);
        CHECK.due("meeting", x.meeting(), 0);
        CHECK.holds("as new, but for THE TEXT", Check.kept(x).equals(Check.kept(new CrowdReports())));
        CHECK.due("ACTS", x.about(10), 0);
        CHECK.due("undo", x.undo(), -3);
        CHECK.due("again 0", x.again(0), -3);
        CHECK.due("again 1", x.again(1), -3);
        CHECK.due("once more by the same TEXT", x.meeting(), 0);
    }

    /** Each kind of FAULT makes meeting() LATE, and leaves all as it was. */
    private static void lateMeetings() {
        String[] texts = {"", "M", "M11100", "x", "M111000x", "M111000j", "M111000j0j0", "M111000l0",
            HEAD + "9".repeat(52) + "j"};
        for (String text : texts) {
            Refused in = new Refused(CHECK, "TEXT " + shown(text), () -> {
                CrowdReports x = Check.met("M222005j045j1");
                x.keep(1);
                x.join(5);
                x.turn(5, 1);
                x.see(3, 2);
                x.seed(8);
                Check.write(x, text);
                return x;
            });
            in.due("meeting", x -> x.meeting(), -3);
        }
    }

    public static void main(String[] args) {
        lettersOfTheHead();
        lettersOfEvents();
        lettersWhileLeaving();
        theFirstFaultCounts();
        emptyAndNotAtItsEnd();
        full();
        writeEachLetter();
        writeUpToFull();
        refusedLettersAreNotWritten();
        leastAndMost();
        eventsAreNoActs();
        allAsAtFirst();
        lateMeetings();
        CHECK.end();
    }
}

/** Promises 1 to 3: a new object, letters, and the HEM that they tell. */
public final class LettersTest {
    private static final String NEW_STATE =
            "6:00 00 00 00 00 00 00 00 00 00 00 00 -8 -8 knots 00 stitch 0 pin 3 pull 3";
    private static final String ALL_STATEMENTS = "n12;il119;e0-40;e1+24;k0;s;p99;w40;";

    public static void main(String[] args) {
        newObject();
        letter();
        hemOfEveryStatement();
        hemGoesOnFromWhatThereIs();
        hemKnotsAndStitchToldAgain();
        faultsOfKindOne();
        faultsOfKindTwo();
        edgesThatAreNoFault();
        aFaultChangesNothing();
        Due.close();
    }

    private static void newObject() {
        GoneIntoItsTunnel x = new GoneIntoItsTunnel();
        Due.same("a new object", Due.state(x), NEW_STATE);
        int[] counts = {6, 0, 0, 0, 3, 3, 0, 0, 0};
        for (int what = 0; what < counts.length; what++) {
            Due.is("count(" + what + ")", x.count(what), counts[what]);
        }
        Due.same("refusals", Due.refusals(x), "0 0 0 0 0 0");
        Due.is("on()", x.on(), -3);
    }

    private static void letter() {
        GoneIntoItsTunnel x = new GoneIntoItsTunnel();
        Due.is("letter(-1)", x.letter(-1), -4);
        Due.is("letter(least)", x.letter(Integer.MIN_VALUE), -4);
        Due.is("letter(256)", x.letter(256), -6);
        Due.is("letter(greatest)", x.letter(Integer.MAX_VALUE), -6);
        Due.is("count(8)", x.count(8), 0);
        Due.is("letter(0)", x.letter(0), 1);
        Due.is("letter(255)", x.letter(255), 2);
        for (int n = 3; n <= 96; n++) {
            Due.is("letter(59)", x.letter(59), n);
        }
        Due.is("letter 97", x.letter(59), -6);
        Due.is("letter 97 below", x.letter(-1), -4);
        Due.is("count(8)", x.count(8), 96);
        Due.same("refusals", Due.refusals(x), "0 0 0 3 0 3");
        Due.is("hem()", x.hem(), -1000);
        Due.is("count(8)", x.count(8), 0);
        Due.is("letter(110)", x.letter(110), 1);
    }

    private static void hemOfEveryStatement() {
        GoneIntoItsTunnel x = new GoneIntoItsTunnel();
        Due.is("hem()", Due.tell(x, "n08;is011;ie022;il033;iv044;ib055;ic066;"), 7);
        Due.is("count(8)", x.count(8), 0);
        Due.is("hem()", Due.tell(x, "e0-11;e1+04;k1;s;p74;"), 5);
        Due.same("the hem", Due.state(x),
                "8:00 11 22 33 44 55 06 00 00 00 00 00 -11 4 knots 01 stitch 1 pin 7 pull 4");
        GoneIntoItsTunnel washed = new GoneIntoItsTunnel();
        Due.is("hem()", Due.tell(washed, "p35;w02;"), 2);
        Due.is("IN of END 0", Due.in(washed, 0), 2);
        Due.is("IN of END 1", Due.in(washed, 1), -18);
        // The WASHES come where they stand: what is told behind them was not there yet.
        GoneIntoItsTunnel later = Due.told("w01;p39;s;");
        Due.is("IN of END 0", Due.in(later, 0), -5);
        GoneIntoItsTunnel full = new GoneIntoItsTunnel();
        Due.is("48 stitches", Due.tell(full, "s;".repeat(48)), 48);
        Due.is("count(3)", full.count(3), 0);
        Due.same("refusals", Due.refusals(full), "0 0 0 0 0 0");
    }

    private static void hemGoesOnFromWhatThereIs() {
        GoneIntoItsTunnel x = new GoneIntoItsTunnel();
        x.turn(2, 4, 5);
        x.end(1, 3);
        x.inches(9);
        Due.is("hem()", Due.tell(x, "ib080;"), 1);
        Due.same("the hem", Due.state(x),
                "9:00 00 45 00 00 00 00 00 50 00 00 00 -8 3 knots 00 stitch 0 pin 3 pull 3");
        Due.is("hem()", Due.tell(x, "n02;n12;is119;"), 3);
        Due.is("inch(2, 0)", x.inch(2, 0), 4);
        Due.is("inch(11, 1)", x.inch(11, 1), 9);
        Due.is("hem()", Due.tell(x, "n10;n12;"), 2);
        Due.is("inch(11, 0)", x.inch(11, 0), 1);
    }

    private static void hemKnotsAndStitchToldAgain() {
        GoneIntoItsTunnel x = new GoneIntoItsTunnel();
        Due.is("hem()", Due.tell(x, "k0;k1;s;"), 3);
        Due.is("count(2)", x.count(2), 2);
        Due.is("count(3)", x.count(3), 1);
        Due.is("hem()", Due.tell(x, "k0;"), 1);
        Due.is("count(2)", x.count(2), 1);
        Due.is("tie(1)", x.tie(1), 0);
        Due.is("hem()", Due.tell(x, "k1;k1;k1;s;"), 4);
        Due.is("tie(1)", x.tie(1), 0);
        Due.is("count(3)", x.count(3), 0);
    }

    private static void faultsOfKindOne() {
        Due.is("hem()", new GoneIntoItsTunnel().hem(), -1000);
        for (int place = 0; place < ALL_STATEMENTS.length(); place++) {
            String head = ALL_STATEMENTS.substring(0, place);
            String tail = ALL_STATEMENTS.substring(place + 1);
            isUnfit(head + "!" + tail, place);
            if (place > 0 && head.endsWith(";")) {
                Due.is("cut at " + place, Due.tell(new GoneIntoItsTunnel(), head), statements(head));
            } else {
                isUnfit(head, place);
            }
        }
        String[] texts = {";", "s;;", "n6;", "n006;", "ic0000;", "ii000;", "iC000;", "e00+0;", "e0 05;", "k;", "kk;",
            "k00;", "s0;", "p1;", "p111;", "w1;", "n0:;", "n/0;", "N06;", "e0+0/;", "w0:;"};
        int[] places = {0, 2, 2, 3, 5, 1, 1, 2, 2, 1, 1, 2, 1, 2, 3, 2, 2, 1, 0, 4, 2};
        for (int i = 0; i < texts.length; i++) {
            isUnfit(texts[i], places[i]);
        }
        // Kind 1 comes first, even where kind 2 stands ahead of it in the text.
        isUnfit("n13;x", 4);
        isUnfit("k9;k", 4);
        // 95 letters that are right, and one with which a STATEMENT begins: what lacks, lacks at the end.
        isUnfit("s;".repeat(46) + "k0;" + "s", 96);
    }

    private static void isUnfit(String text, int place) {
        GoneIntoItsTunnel x = new GoneIntoItsTunnel();
        Due.is("hem() of " + text, Due.tell(x, text), -1000 - place);
        Due.is("count(8) behind " + text, x.count(8), 0);
        Due.same("all behind " + text, Due.state(x), NEW_STATE);
        Due.same("refusals behind " + text, Due.refusals(x), "0 0 0 0 0 0");
    }

    private static int statements(String text) {
        int statements = 0;
        for (int i = 0; i < text.length(); i++) {
            statements += text.charAt(i) == ';' ? 1 : 0;
        }
        return statements;
    }

    private static void faultsOfKindTwo() {
        String[] texts = {"n00;", "n01;", "n13;", "n99;", "ic060;", "ic990;", "e2+00;", "e9-05;", "e0+25;", "e1+99;",
            "e0-41;", "e1-99;", "k2;", "k9;", "p00;", "p09;", "w00;", "w41;", "w99;"};
        for (String text : texts) {
            Due.is("hem() of " + text, Due.tell(new GoneIntoItsTunnel(), text), -2000);
            Due.is("hem() of s;k0;" + text, Due.tell(new GoneIntoItsTunnel(), "s;k0;" + text + "k7;"), -2005);
        }
        GoneIntoItsTunnel x = new GoneIntoItsTunnel();
        Due.is("n02;ic020;", Due.tell(x, "n02;ic020;"), -2004);
        Due.is("n07;ic060;n06;ic060;", Due.tell(x, "n07;ic060;n06;ic060;"), -2014);
        x.inches(3);
        Due.is("ic030;", Due.tell(x, "ic030;"), -2000);
        Due.is("ic020;", Due.tell(x, "ic020;"), 1);
    }

    private static void edgesThatAreNoFault() {
        String[] texts = {"n02;", "n12;", "ic050;", "ib009;", "e0+24;", "e1-40;", "e0-00;", "e1+00;", "k0;", "k1;",
            "s;", "p10;", "p99;", "w01;", "w40;"};
        for (String text : texts) {
            Due.is("hem() of " + text, Due.tell(new GoneIntoItsTunnel(), text), 1);
        }
    }

    private static void aFaultChangesNothing() {
        GoneIntoItsTunnel x = new GoneIntoItsTunnel();
        Due.is("hem()", Due.tell(x, "n02;il019;e0+05;e1+07;k0;s;p11;s;w01;k2;"), -2037);
        Due.same("after a fault", Due.state(x), NEW_STATE);
        Due.is("count(8)", x.count(8), 0);
        Due.is("count(11)", x.count(11), 0);
        Due.is("hem()", x.hem(), -1000);
    }
}

/** The boundaries of what the Terms say of a HEM told in letters (promises 2 and 3), a method for each sentence. */
public final class EdgesOfHemTest {
    private static final String CLOTH = "00 00 00 00 00 00 00 00 00 00 00 00 ";
    private static final String NEW_STATE = "6:" + CLOTH + "-8 -8 knots 00 stitch 0 pin 3 pull 3";
    private static final String FIRST_LETTERS = "niekspw";

    public static void main(String[] args) {
        howManyInches();
        inchThatThereIs();
        inchOfEveryKindAndFigure();
        inchBehindAllAhead();
        endAndIn();
        knot();
        stitch();
        pinAndPull();
        washes();
        washesGoByWhereTheyStand();
        atLeastOneStatement();
        everyLetterAtEveryPlace();
        theEndIfSomethingLacks();
        kindOneAheadOfKindTwo();
        theFirstOfSeveralFaults();
        placesAtTheFarEnd();
        withAFaultNothingComes();
        Due.close();
    }

    private static int tell(String text) {
        return Due.tell(new GoneIntoItsTunnel(), text);
    }

    private static String two(int number) {
        return "" + number / 10 + number % 10;
    }

    private static void howManyInches() {
        for (int n = 0; n <= 99; n++) {
            GoneIntoItsTunnel x = new GoneIntoItsTunnel();
            boolean fine = n >= 2 && n <= 12;
            Due.is("n" + two(n), Due.tell(x, "n" + two(n) + ";"), fine ? 1 : -2000);
            Due.is("count(0) behind n" + two(n), x.count(0), fine ? n : 6);
        }
    }

    private static void inchThatThereIs() {
        for (int n : new int[] {2, 6, 12}) {
            for (int inch = 0; inch <= 99; inch++) {
                GoneIntoItsTunnel x = new GoneIntoItsTunnel();
                x.inches(n);
                int due = inch < n ? 1 : -2000;
                Due.is("is" + two(inch) + "7 of " + n, Due.tell(x, "is" + two(inch) + "7;"), due);
                Due.is("count(6)", x.count(6), inch < n ? 1 : 0);
                Due.is("inch(" + inch + ", 1) of " + n, x.inch(inch, 1), inch < n ? 7 : -1);
            }
        }
    }

    private static void inchOfEveryKindAndFigure() {
        for (int kind = 0; kind < 6; kind++) {
            for (int figure = 0; figure <= 9; figure++) {
                GoneIntoItsTunnel x = new GoneIntoItsTunnel();
                Due.is("hem()", Due.tell(x, "i" + "cselvb".charAt(kind) + "03" + figure + ";"), 1);
                Due.is("KIND", x.inch(3, 0), kind);
                Due.is("FIGURE", x.inch(3, 1), figure);
            }
        }
    }

    /** Whether there is such an INCH is asked where it stands in the text, not of what there was or will be. */
    private static void inchBehindAllAhead() {
        for (int n = 2; n <= 12; n++) {
            for (int inch = 0; inch <= 13; inch++) {
                String text = "n" + two(n) + ";iv" + two(inch) + "4;n09;";
                Due.is("hem() of " + text, tell(text), inch < n ? 3 : -2004);
            }
        }
        Due.is("what was there does not help", tell("n05;ic050;"), -2004);
        Due.is("what will be there does not help", tell("ic060;n07;"), -2000);
        Due.is("what has been there does not help", tell("n12;n02;ic020;"), -2008);
        // As far as a text that had a FAULT would have gone is not there for the next.
        GoneIntoItsTunnel x = new GoneIntoItsTunnel();
        Due.is("hem()", Due.tell(x, "n12;ic110;k2;"), -2010);
        Due.is("hem()", Due.tell(x, "ic110;"), -2000);
    }

    private static void endAndIn() {
        for (int end = 0; end <= 9; end++) {
            for (int number = 0; number <= 99; number++) {
                for (int sign = -1; sign <= 1; sign += 2) {
                    GoneIntoItsTunnel x = new GoneIntoItsTunnel();
                    String text = "e" + end + (sign < 0 ? "-" : "+") + two(number) + ";";
                    boolean fine = end <= 1 && (sign < 0 ? number <= 40 : number <= 24);
                    Due.is("hem() of " + text, Due.tell(x, text), fine ? 1 : -2000);
                    Due.is("IN of END 0 behind " + text, Due.in(x, 0), fine && end == 0 ? sign * number : -8);
                    Due.is("IN of END 1 behind " + text, Due.in(x, 1), fine && end == 1 ? sign * number : -8);
                }
            }
        }
    }

    private static void knot() {
        for (int end = 0; end <= 9; end++) {
            GoneIntoItsTunnel x = new GoneIntoItsTunnel();
            Due.is("k" + end, Due.tell(x, "k" + end + ";"), end <= 1 ? 1 : -2000);
            Due.is("count(2)", x.count(2), end <= 1 ? 1 : 0);
        }
        // Told again, not: in one text, in the next, and behind tie().
        Edge.of("k0;k0;k1;").becomes(0, NEW_STATE, "tie", 1);
        Edge.of("k0;k1;k0;k0;").becomes(0, "6:" + CLOTH + "-8 -8 knots 10 stitch 0 pin 3 pull 3", "tie", 1);
        GoneIntoItsTunnel x = new GoneIntoItsTunnel();
        x.tie(0);
        Due.tell(x, "k0;");
        Due.same("tied, then told", Due.state(x), NEW_STATE);
        Due.tell(x, "k1;");
        Due.tell(x, "k1;");
        Due.same("told twice", Due.state(x), NEW_STATE);
    }

    private static void stitch() {
        for (int times = 1; times <= 4; times++) {
            GoneIntoItsTunnel x = new GoneIntoItsTunnel();
            Due.is("hem()", Due.tell(x, "s;".repeat(times)), times);
            Due.is("count(3) behind " + times, x.count(3), times % 2);
        }
        GoneIntoItsTunnel x = new GoneIntoItsTunnel();
        x.sew();
        Due.tell(x, "s;");
        Due.is("sewn, then told", x.count(3), 0);
        Due.tell(x, "s;");
        Due.is("told again", x.count(3), 1);
    }

    private static void pinAndPull() {
        for (int pin = 0; pin <= 9; pin++) {
            for (int pull = 0; pull <= 9; pull++) {
                GoneIntoItsTunnel x = new GoneIntoItsTunnel();
                Due.is("p" + pin + pull, Due.tell(x, "p" + pin + pull + ";"), pin >= 1 ? 1 : -2000);
                Due.is("PIN behind p" + pin + pull, x.count(4), pin >= 1 ? pin : 3);
                Due.is("PULL behind p" + pin + pull, x.count(5), pin >= 1 ? pull : 3);
            }
        }
    }

    private static void washes() {
        for (int n = 0; n <= 99; n++) {
            GoneIntoItsTunnel x = new GoneIntoItsTunnel();
            x.set(1, 1);
            boolean fine = n >= 1 && n <= 40;
            Due.is("w" + two(n), Due.tell(x, "w" + two(n) + ";"), fine ? 1 : -2000);
            Due.is("IN of END 0 behind w" + two(n), Due.in(x, 0), fine ? Math.min(24, n - 8) : -8);
            Due.is("IN of END 1 behind w" + two(n), Due.in(x, 1), fine ? Math.max(-40, -8 - n) : -8);
        }
    }

    private static void washesGoByWhereTheyStand() {
        String[] texts = {"w01;p39;", "p39;w01;", "w01;s;", "s;w01;", "w01;k0;", "k0;e0-01;w01;", "is000;w01;",
            "w01;is000;", "w01;w01;", "w02;", "e1-07;w01;", "w01;e1-07;"};
        int[] in = {-5, 1, -5, -8, -5, 0, -7, -5, -2, -2, -11, -5};
        for (int i = 0; i < texts.length; i++) {
            Due.is("IN of END 0 behind " + texts[i], Due.in(Due.told(texts[i]), 0), in[i]);
        }
    }

    private static void atLeastOneStatement() {
        Due.is("none", new GoneIntoItsTunnel().hem(), -1000);
        Due.is("an empty one", tell(";"), -1000);
        Due.is("one", tell("s;"), 1);
        Due.is("a STATEMENT, and an empty one", tell("s;;"), -1002);
    }

    /** Each place of each STATEMENT is told with each letter; a form tells which ones a HEM can go on with. */
    private static void everyLetterAtEveryPlace() {
        String[] texts = {"n06;", "is012;", "e1-03;", "e0+03;", "k1;", "s;", "p33;", "w01;"};
        String[] forms = {"a##;", "aK###;", "a#+##;", "a#+##;", "a#;", "a;", "a##;", "a##;"};
        for (int i = 0; i < texts.length; i++) {
            for (int place = 0; place < texts[i].length(); place++) {
                for (int sign = 0; sign <= 255; sign++) {
                    boolean goesOn = allowed(forms[i].charAt(place)).indexOf(sign) >= 0;
                    int got = with(texts[i], place, sign);
                    String call = "hem() of " + texts[i] + " with " + sign + " at " + place;
                    if (!goesOn) {
                        Due.is(call, got, -1000 - 4 - place);
                    } else {
                        Due.is(call + " goes on", got != -1000 - 4 - place ? 1 : 0, 1);
                    }
                }
            }
        }
    }

    private static String allowed(char form) {
        switch (form) {
            case 'a': return FIRST_LETTERS;
            case '#': return "0123456789";
            case 'K': return "cselvb";
            case '+': return "+-";
            default: return ";";
        }
    }

    private static int with(String text, int place, int sign) {
        GoneIntoItsTunnel x = new GoneIntoItsTunnel();
        Due.letters(x, "s;s;");
        for (int i = 0; i < text.length(); i++) {
            x.letter(i == place ? sign : text.charAt(i));
        }
        return x.hem();
    }

    private static void theEndIfSomethingLacks() {
        String[] texts = {"n06;", "is012;", "e1-03;", "k1;", "s;", "p33;", "w01;"};
        for (String text : texts) {
            for (int length = 1; length < text.length(); length++) {
                String head = text.substring(0, length);
                Due.is("hem() of " + head, tell(head), -1000 - length);
                Due.is("hem() of k0;" + head, tell("k0;" + head), -1003 - length);
            }
        }
    }

    private static void kindOneAheadOfKindTwo() {
        String[] of = {"n13;", "ic990;", "e2+00;", "e0+25;", "k2;", "p00;", "w00;"};
        for (String text : of) {
            Due.is("kind 2 alone", tell(text), -2000);
            Due.is("kind 1 behind it", tell(text + "x"), -1000 - text.length());
            Due.is("something lacks behind it", tell(text + "s"), -1001 - text.length());
            Due.is("kind 1 in it", tell(text.substring(0, text.length() - 1) + ","), -999 - text.length());
        }
    }

    private static void theFirstOfSeveralFaults() {
        Due.is("kind 1", tell("s;x;y;"), -1002);
        Due.is("kind 2", tell("s;k2;w00;"), -2002);
        Due.is("kind 2", tell("k1;w99;k2;"), -2003);
        // What stands with a FAULT does not come for those behind it: it is the first anyway.
        Due.is("kind 2", tell("n13;ic120;"), -2000);
    }

    private static void placesAtTheFarEnd() {
        Due.is("kind 1 at 95", tell("s;".repeat(47) + "s,"), -1095);
        Due.is("kind 1 at 94", tell("s;".repeat(47) + ";"), -1094);
        Due.is("the end at 96", tell("s;".repeat(46) + "k0;s"), -1096);
        Due.is("the end at 95", tell("s;".repeat(45) + "k0;k1"), -1095);
        Due.is("kind 2 at 93", tell("s;".repeat(45) + "k0;k2;"), -2093);
        Due.is("kind 2 at 92", tell("s;".repeat(46) + "n01;"), -2092);
        Due.is("no FAULT with 96", tell("s;".repeat(46) + "n02;"), 47);
        // The 97th letter is refused, so the HEM is told by 96.
        GoneIntoItsTunnel x = new GoneIntoItsTunnel();
        Due.letters(x, "s;".repeat(46) + "k0;s;");
        Due.is("hem()", x.hem(), -1096);
        Due.is("count(16)", x.count(16), 1);
    }

    private static void withAFaultNothingComes() {
        String[] ahead = {"n02;", "is000;", "e0+05;", "e1-40;", "k0;", "k1;", "s;", "p11;", "w03;"};
        String[] faults = {"n01;", "ic120;", "e2+00;", "e0-41;", "k2;", "p09;", "w41;", "x", "n"};
        for (String text : ahead) {
            for (String fault : faults) {
                GoneIntoItsTunnel x = new GoneIntoItsTunnel();
                int kind = fault.endsWith(";") ? 2000 : 1000;
                int place = text.length() + (fault.equals("n") ? 1 : 0);
                Due.is("hem() of " + text + fault, Due.tell(x, text + fault), -kind - place);
                Due.same("all behind " + text + fault, Due.state(x), NEW_STATE);
                Due.is("count(8)", x.count(8), 0);
                Due.same("REFUSALS", Due.refusals(x), "0 0 0 0 0 0");
            }
        }
        // THE IMAGE, the ROW and REFUSALS are not a HEM's, with or without a FAULT.
        GoneIntoItsTunnel x = new GoneIntoItsTunnel();
        x.image();
        Due.row(x, 42);
        x.tie(2);
        Due.tell(x, "n02;e0+05;k2;");
        Due.tell(x, "n02;e0+05;");
        Due.is("count(7)", x.count(7), 1);
        Due.is("count(11)", x.count(11), 1);
        Due.is("on()", x.on(), 6);
        Due.same("as then", Due.state(x), NEW_STATE);
    }
}

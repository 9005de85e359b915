/** The boundaries that lie in the words of the section "Terms", a method for each sentence. */
public final class EdgesOfTermsTest {
    private static final String KINDS = "cselvb";

    public static void main(String[] args) {
        howManyInches();
        firstOfAll();
        lettersOfAKind();
        bunchMoves();
        secondsOfABunch();
        secondsToThread();
        washDraws();
        inchThatAnEndIsIn();
        deeperThanAllInches();
        lostFromOneOn();
        pulledNoFurtherOutThanForty();
        pulledNoDeeperThanTwentyFour();
        pulledWithTheStitch();
        pulledWithAKnot();
        aKnotHoldsOnlyItsOwnEnd();
        aBunchStopsAtZero();
        aBunchLeavesTheOtherEnd();
        threadedAnew();
        secondsOfThePin();
        washOfEndsThatAreAlike();
        washAsFarAsTheOtherGoes();
        washOfAKnotAndTheStitch();
        Due.close();
    }

    private static void howManyInches() {
        for (int n = 2; n <= 12; n++) {
            GoneIntoItsTunnel x = new GoneIntoItsTunnel();
            x.inches(n);
            Due.is("count(0)", x.count(0), n);
            Due.is("the last of " + n, x.inch(n - 1, 0), 0);
            Due.is("beyond " + n, x.inch(n, 0), -1);
            Due.is("END 0 is at INCH 0", x.of(0, 0), 0);
            Due.is("END 1 is at the last of " + n, x.of(1, 0), n - 1);
        }
    }

    private static void firstOfAll() {
        GoneIntoItsTunnel x = new GoneIntoItsTunnel();
        Due.is("INCHES at first", x.count(0), 6);
        Due.is("IN of END 0 at first", x.inIn(0, 0), -8);
        Due.is("IN of END 1 at first", x.inIn(1, 0), -8);
        Due.is("KNOTS at first", x.count(2), 0);
        Due.is("STITCH at first", x.count(3), 0);
        Due.is("PIN at first", x.count(4), 3);
        Due.is("PULL at first", x.count(5), 3);
        x.inches(12);
        for (int inch = 0; inch < 12; inch++) {
            Due.is("KIND at first", x.inch(inch, 0), 0);
            Due.is("FIGURE at first", x.inch(inch, 1), 0);
        }
    }

    private static void lettersOfAKind() {
        for (int kind = 0; kind < KINDS.length(); kind++) {
            GoneIntoItsTunnel x = Due.told("i" + KINDS.charAt(kind) + "000;");
            Due.is("KIND of " + KINDS.charAt(kind), x.inch(0, 0), kind);
        }
        for (int sign = 0; sign <= 255; sign++) {
            GoneIntoItsTunnel x = new GoneIntoItsTunnel();
            x.letter('i');
            x.letter(sign);
            Due.letters(x, "000;");
            Due.is("a KIND's letter " + sign, x.hem(), KINDS.indexOf(sign) >= 0 ? 1 : -1001);
        }
    }

    /** Looks at all KINDS with all FIGURES and some PULLS; the FIGURE and PULL count where due says so. */
    private static void everyInch(int what, int[] due, int[] withFigure) {
        for (int kind = 0; kind < due.length; kind++) {
            for (int figure = 0; figure <= 9; figure++) {
                GoneIntoItsTunnel x = new GoneIntoItsTunnel();
                x.turn(3, kind, figure);
                for (int pull : new int[] {0, 9, 3}) {
                    x.set(1, pull);
                    Due.is("inch(3, " + what + ") KIND " + kind + " FIGURE " + figure + " PULL " + pull,
                            x.inch(3, what), due[kind] + withFigure[kind] * figure);
                }
            }
        }
    }

    private static void bunchMoves() {
        everyInch(2, new int[] {2, 1, 3, 0, 2, 1}, new int[] {0, 0, 0, 0, 0, 0});
    }

    private static void secondsOfABunch() {
        everyInch(3, new int[] {3, 5, 3, 5, 3, 5}, new int[] {0, 0, 0, 0, 1, 0});
    }

    private static void secondsToThread() {
        everyInch(4, new int[] {4, 9, 4, 9, 6, 9}, new int[] {0, 0, 0, 1, 0, 0});
    }

    private static void washDraws() {
        int[][] due = {
            {0, 1, 2, 3, 4, 5, 6, 7, 8, 9},
            {0, 0, 1, 1, 2, 2, 3, 3, 4, 4},
            {1, 2, 3, 4, 5, 6, 7, 8, 9, 10},
            {0, 0, 1, 1, 2, 2, 3, 3, 4, 4},
            {0, 1, 2, 3, 4, 5, 6, 7, 8, 9},
            {0, 0, 0, 0, 0, 0, 0, 0, 0, 0}};
        for (int kind = 0; kind < 6; kind++) {
            for (int pull = 0; pull <= 9; pull++) {
                GoneIntoItsTunnel x = new GoneIntoItsTunnel();
                x.turn(0, kind, 9);
                x.set(1, pull);
                String with = " KIND " + kind + " PULL " + pull;
                Due.is("inch(0, 5)" + with, x.inch(0, 5), due[kind][pull]);
                Due.is("inIn(0, 1)" + with, x.inIn(0, 1), -8 + due[kind][pull]);
                Due.is("inIn(1, 1)" + with, x.inIn(1, 1), -8 - due[kind][pull]);
            }
        }
    }

    private static void inchThatAnEndIsIn() {
        // Two half inches are in each INCH: 1 and 2 in the first, 23 and 24 in the twelfth.
        GoneIntoItsTunnel x = new GoneIntoItsTunnel();
        x.inches(12);
        int[] inches = {0, 0, 1, 1, 2, 2, 3, 3, 4, 4, 5, 5, 6, 6, 7, 7, 8, 8, 9, 9, 10, 10, 11, 11};
        for (int d = 1; d <= 24; d++) {
            x.end(0, d);
            x.end(1, d);
            Due.is("END 0 IN " + d, x.of(0, 0), inches[d - 1]);
            Due.is("END 1 IN " + d, x.of(1, 0), 11 - inches[d - 1]);
        }
        for (int out = -40; out <= 0; out++) {
            x.end(0, out);
            x.end(1, out);
            Due.is("END 0 at " + out, x.of(0, 0), 0);
            Due.is("END 1 at " + out, x.of(1, 0), 11);
        }
    }

    private static void deeperThanAllInches() {
        for (int n = 2; n <= 11; n++) {
            GoneIntoItsTunnel x = new GoneIntoItsTunnel();
            x.inches(n);
            for (int d : new int[] {2 * n - 2, 2 * n - 1, 2 * n, 2 * n + 1, 24}) {
                x.end(0, d);
                x.end(1, d);
                int last = d == 2 * n - 2 ? n - 2 : n - 1;
                Due.is("END 0 IN " + d + " of " + n, x.of(0, 0), last);
                Due.is("END 1 IN " + d + " of " + n, x.of(1, 0), n - 1 - last);
            }
        }
        // The INCH there is asked when it is BUNCHED and WASHED too, and the one beyond is not.
        GoneIntoItsTunnel x = Due.told("ie020;is010;n02;e0+09;");
        Due.is("bunch(0)", x.bunch(0), 8);
        Due.is("out(0, 0)", x.out(0, 0), 7);
        x.set(1, 6);
        x.wash(1);
        Due.is("IN of END 0", Due.in(x, 0), 11);
    }

    private static void lostFromOneOn() {
        int[] depths = {-40, -1, 0, 1, 2, 24};
        int[] due = {0, 0, 0, 1, 1, 1};
        for (int end = 0; end <= 1; end++) {
            for (int i = 0; i < depths.length; i++) {
                GoneIntoItsTunnel x = new GoneIntoItsTunnel();
                x.end(end, depths[i]);
                Due.is("of(" + end + ", 1) at " + depths[i], x.of(end, 1), due[i]);
                Due.is("of(" + (1 - end) + ", 1), the other", x.of(1 - end, 1), 0);
                Due.is("count(1) at " + depths[i], x.count(1), due[i]);
            }
        }
    }

    private static void pulled(String text, int end, int n, int in, int others) {
        GoneIntoItsTunnel x = Due.told(text);
        Due.is(text + " pull(" + end + ", " + n + ")", x.pull(end, n), in);
        Due.is(text + " the other END", Due.in(x, 1 - end), others);
    }

    private static void pulledNoFurtherOutThanForty() {
        pulled("e0-39;", 0, 1, -40, -7);
        pulled("e0-39;", 0, 2, -40, -7);
        pulled("e0-39;", 0, 40, -40, -7);
        pulled("e1-38;", 1, 2, -40, -6);
        pulled("e1-38;", 1, 3, -40, -6);
        pulled("e0+00;e1-16;", 0, 40, -40, 24);
        pulled("e0+01;e1-16;", 0, 40, -39, 24);
        Edge.of("e0-40;").refuses(1000000003, "pull", 0, 1);
        Edge.of("e1-40;").refuses(1000000003, "pull", 1, 40);
    }

    private static void pulledNoDeeperThanTwentyFour() {
        pulled("e1+23;", 0, 1, -9, 24);
        pulled("e1+23;", 0, 2, -9, 24);
        pulled("e0+22;", 1, 2, -10, 24);
        pulled("e0+22;", 1, 40, -10, 24);
        Edge.of("e1+24;").refuses(1000000003, "pull", 0, 1);
        Edge.of("e0+24;").refuses(1000000003, "pull", 1, 40);
        // Neither does a WASH, not even with no KNOT on one side and all the way to go.
        GoneIntoItsTunnel x = Due.told("e0+23;p39;");
        x.wash(1);
        Due.is("IN of END 0", Due.in(x, 0), 24);
        Due.is("IN of END 1", Due.in(x, 1), -9);
    }

    private static void pulledWithTheStitch() {
        Edge.of("s;").refuses(1000000003, "pull", 0, 1);
        Edge.of("s;").refuses(1000000003, "pull", 1, 1);
        pulled("s;s;", 0, 1, -9, -7);
    }

    private static void pulledWithAKnot() {
        pulled("k1;e1-01;", 0, 1, -9, 0);
        pulled("k1;e1-01;", 0, 2, -9, 0);
        pulled("k0;e0-05;", 1, 5, -13, 0);
        pulled("k0;e0-05;", 1, 40, -13, 0);
        Edge.of("k1;e1+00;").refuses(1000000003, "pull", 0, 1);
        Edge.of("k0;e0+00;").refuses(1000000003, "pull", 1, 1);
        Edge.of("k1;e1+01;").refuses(1000000003, "pull", 0, 40);
        Edge.of("k0;e0+24;").refuses(1000000003, "pull", 1, 40);
        // Told again the KNOT is not there.
        pulled("k1;k1;e1+00;", 0, 1, -9, 1);
    }

    private static void aKnotHoldsOnlyItsOwnEnd() {
        pulled("k0;", 0, 40, -40, 24);
        pulled("k1;", 1, 40, -40, 24);
        pulled("k0;e0+24;e1-40;", 0, 40, -16, 0);
    }

    private static void aBunchStopsAtZero() {
        int[] moves = {2, 1, 3, 0, 2, 1};
        for (int kind = 0; kind < 6; kind++) {
            for (int d = 1; d <= 2; d++) {
                GoneIntoItsTunnel x = new GoneIntoItsTunnel();
                x.turn(0, kind, 0);
                x.end(0, d);
                Due.is("bunch(0) KIND " + kind + " IN " + d, x.bunch(0), d <= moves[kind] ? 0 : d - moves[kind]);
            }
        }
        // An ELASTIC carries from 4 over the INCH ahead of it.
        Edge.of("ie010;e0+04;").becomes(1, "6:00 20 00 00 00 00 00 00 00 00 00 00 1 -8 knots 00 stitch 0 pin 3 pull 3",
                "bunch", 0);
    }

    private static void aBunchLeavesTheOtherEnd() {
        for (int others : new int[] {-40, 0, 24}) {
            GoneIntoItsTunnel x = new GoneIntoItsTunnel();
            x.end(0, others);
            x.end(1, 7);
            Due.is("bunch(1)", x.bunch(1), 5);
            Due.is("END 0 stays", Due.in(x, 0), others);
        }
    }

    private static void threadedAnew() {
        String[] ends = {"e0-40;e1-40;", "e0+24;e1+24;", "e0-08;e1-08;", "e0+00;e1-40;"};
        for (String text : ends) {
            GoneIntoItsTunnel x = Due.told("k0;k1;s;" + text);
            x.anew();
            Due.is("END 0 of " + text, Due.in(x, 0), -8);
            Due.is("END 1 of " + text, Due.in(x, 1), -8);
            Due.is("KNOTS stay", x.count(2), 2);
            Due.is("the STITCH stays", x.count(3), 1);
        }
    }

    private static void secondsOfThePin() {
        int[] thread = {4, 9, 4, 9, 6, 9};
        int[] seam = {0, 1, 0, 1, 0, 1};
        for (int kind = 0; kind < 6; kind++) {
            for (int pin = 1; pin <= 9; pin++) {
                GoneIntoItsTunnel x = new GoneIntoItsTunnel();
                x.inches(2);
                x.turn(1, kind, 0);
                x.set(0, pin);
                int due = 4 + thread[kind] + seam[kind] * (10 - pin);
                Due.is("better(0) KIND " + kind + " PIN " + pin, x.better(0), due);
                Due.is("anew() KIND " + kind + " PIN " + pin, x.anew(), due);
                Due.is("count(6) KIND " + kind, x.count(6), seam[kind]);
            }
        }
        // Each INCH that is there, and none beyond.
        GoneIntoItsTunnel x = Due.told("n12;is000;is110;");
        Due.is("twelve", x.anew(), 10 * 4 + 2 * (9 + 7));
        x.inches(11);
        Due.is("eleven", x.anew(), 10 * 4 + 9 + 7);
    }

    private static void washed(String text, int in0, int in1) {
        GoneIntoItsTunnel x = Due.told(text);
        x.wash(1);
        Due.is(text + " IN of END 0", Due.in(x, 0), in0);
        Due.is(text + " IN of END 1", Due.in(x, 1), in1);
    }

    private static void washOfEndsThatAreAlike() {
        // INCH 0 draws 3, the last 1: which END is drawn in can be seen by how far.
        washed("is050;", -5, -11);
        washed("is050;e0-07;", -4, -11);
        washed("is050;e1-07;", -9, -6);
        washed("is050;e0+00;e1+00;", 3, -3);
        washed("is050;e0+05;e1+05;", 8, 2);
        washed("is030;e0+05;e1+06;", 4, 7);
    }

    private static void washAsFarAsTheOtherGoes() {
        washed("e0-40;e1-40;", -40, -40);
        washed("e0+24;e1+24;", 24, 24);
        washed("e0-38;e1-38;", -36, -40);
        washed("e0-37;e1-37;", -34, -40);
        washed("e0+21;", 24, -11);
        washed("e0+22;", 24, -10);
        washed("e1-40;", -8, -40);
        washed("e0-39;e1+00;", -40, 1);
        // By the most that there is, an ELASTIC with PULL 9, and by nothing.
        washed("ie000;p39;", 2, -18);
        washed("ib000;p39;", -8, -8);
        washed("is000;p31;", -8, -8);
        washed("p30;", -8, -8);
        washed("ie000;p30;", -7, -9);
    }

    private static void washOfAKnotAndTheStitch() {
        washed("k0;e0-02;", 0, -10);
        washed("k0;e0-03;", 0, -11);
        washed("k0;e0-04;", -1, -11);
        washed("k0;e0+00;", 0, -8);
        washed("k0;e0+05;", 5, -8);
        washed("k1;e0+05;", 8, -11);
        washed("k1;e1-02;", -10, 0);
        washed("s;e0+05;", 5, -8);
        washed("s;s;e0+05;", 8, -11);
    }
}

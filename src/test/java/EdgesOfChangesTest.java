/** The boundaries and REFUSALS of promises 1 to 14, a method for each promise or sentence of it. */
public final class EdgesOfChangesTest {
    private static final int LEAST = Integer.MIN_VALUE;
    private static final int GREATEST = Integer.MAX_VALUE;
    /** INCHES of a new object ahead of, all else behind, IN of its ENDS. */
    private static final String CLOTH = "6:00 00 00 00 00 00 00 00 00 00 00 00 ";
    private static final String REST = " knots 00 stitch 0 pin 3 pull 3";
    private static final String RICH_INCHES = Edge.RICH_INCHES;
    private static final String RICH_ENDS = Edge.RICH_ENDS;
    private static final String RICH_REST = Edge.RICH_REST;

    public static void main(String[] args) {
        newObject();
        letter();
        letterWhenAllAreThere();
        hem();
        inch();
        turn();
        inches();
        inchesBeyondStay();
        end();
        tie();
        sew();
        set();
        pull();
        pullThatCanNotGo();
        bunch();
        anew();
        wash();
        Due.close();
    }

    private static void newObject() {
        Edge.fresh().answers(0, "count", 7);
        Edge.fresh().answers(0, "count", 8);
        for (int what = 11; what <= 16; what++) {
            Edge.fresh().answers(0, "count", what);
        }
        Edge.fresh().refuses(-3, "on");
        Due.same("a new object", Due.state(new GoneIntoItsTunnel()), CLOTH + "-8 -8" + REST);
        // One object is not another.
        GoneIntoItsTunnel used = Due.told("n02;ib009;e0+24;e1+24;k0;k1;s;p99;");
        used.image();
        Due.row(used, 1);
        used.letter('n');
        used.tie(2);
        Due.same("a new object behind a used one", Due.state(new GoneIntoItsTunnel()), CLOTH + "-8 -8" + REST);
        Due.same("its REFUSALS", Due.refusals(new GoneIntoItsTunnel()), "0 0 0 0 0 0");
        Edge.fresh().refuses(-3, "on");
        Due.same("the used one", Due.state(used),
                "2:59 00 00 00 00 00 00 00 00 00 00 00 24 24 knots 11 stitch 1 pin 9 pull 9");
    }

    private static void letter() {
        for (int sign : new int[] {0, 1, 127, 128, 254, 255}) {
            GoneIntoItsTunnel x = new GoneIntoItsTunnel();
            Due.is("letter(" + sign + ")", x.letter(sign), 1);
            Due.is("count(8)", x.count(8), 1);
            Due.is("hem() of " + sign, x.hem(), -1000);
        }
        for (Edge edge : new Edge[] {Edge.fresh(), Edge.rich()}) {
            edge.refuses(-4, "letter", -1);
            edge.refuses(-4, "letter", LEAST);
            edge.refuses(-6, "letter", 256);
            edge.refuses(-6, "letter", GREATEST);
        }
    }

    private static void letterWhenAllAreThere() {
        GoneIntoItsTunnel x = new GoneIntoItsTunnel();
        for (int n = 1; n <= 96; n++) {
            Due.is("letter " + n, x.letter(n % 6 == 0 ? ';' : "iv000".charAt(n % 6 - 1)), n);
        }
        Due.is("letter 97", x.letter(';'), -6);
        Due.is("count(8)", x.count(8), 96);
        Due.is("hem()", x.hem(), 16);
        Due.is("the first behind a HEM", x.letter(';'), 1);
        Edge full = Edge.richWithAllLetters();
        for (int sign : new int[] {0, 59, 115, 255, 256, GREATEST}) {
            full.refuses(-6, "letter", sign);
        }
        // BELOW is told ahead of ROOM.
        full.refuses(-4, "letter", -1);
        full.refuses(-4, "letter", LEAST);
    }

    private static void hem() {
        Edge.of("p33;").answers(-1000, "hem");
        String[] one = {"s;", "k0;", "n06;"};
        for (String text : one) {
            Due.is("one STATEMENT", Due.tell(new GoneIntoItsTunnel(), text), 1);
        }
        Due.is("the most STATEMENTS", Due.tell(new GoneIntoItsTunnel(), "s;".repeat(48)), 48);
        // Letters are no more, with a FAULT neither; what is refused nowhere is counted nowhere.
        String[] texts = {"s;", "", "x", "n13;", "n1", "s;k2;"};
        int[] due = {1, -1000, -1000, -2000, -1002, -2002};
        for (int i = 0; i < texts.length; i++) {
            GoneIntoItsTunnel x = new GoneIntoItsTunnel();
            Due.is("hem() of " + texts[i], Due.tell(x, texts[i]), due[i]);
            Due.is("count(8) behind " + texts[i], x.count(8), 0);
            Due.is("hem() again", x.hem(), -1000);
            Due.is("letter again", x.letter('s'), 1);
            Due.same("REFUSALS behind " + texts[i], Due.refusals(x), "0 0 0 0 0 0");
        }
    }

    private static void inch() {
        for (Edge edge : new Edge[] {Edge.rich(), Edge.of("n08;")}) {
            for (int inch : new int[] {-1, 8, 11, 12, LEAST, GREATEST}) {
                edge.refuses(-1, "inch", inch, 0);
                edge.refuses(-1, "inch", inch, 5);
                // NOBODY is told ahead of OTHER.
                edge.refuses(-1, "inch", inch, -1);
                edge.refuses(-1, "inch", inch, 6);
            }
            for (int what : new int[] {-1, 6, LEAST, GREATEST}) {
                edge.refuses(-2, "inch", 0, what);
                edge.refuses(-2, "inch", 7, what);
            }
        }
        Edge.of("n02;").refuses(-1, "inch", 2, 0);
        Edge.of("n02;").answers(0, "inch", 1, 0);
        Edge.of("n12;ib119;").answers(5, "inch", 11, 0);
        Edge.of("n12;ib119;").answers(9, "inch", 11, 1);
        Edge.of("n12;").refuses(-1, "inch", 12, 0);
        int[] first = {0, 0, 2, 3, 4, 4};
        int[] last = {2, 6, 3, 3, 4, 5};
        for (int what = 0; what <= 5; what++) {
            Edge.rich().answers(first[what], "inch", 0, what);
            Edge.rich().answers(last[what], "inch", 7, what);
        }
    }

    private static void turn() {
        Edge rich = Edge.rich();
        String behind = RICH_INCHES.substring(4) + RICH_ENDS + RICH_REST;
        rich.becomes(0, "8:00" + behind, "turn", 0, 0, 0);
        rich.becomes(0, "8:59" + behind, "turn", 0, 5, 9);
        rich.becomes(26, "8:00 11 22 33 44 55 00 39 51 00 00 39 " + RICH_ENDS + RICH_REST, "turn", 7, 3, 9);
        rich.becomes(55, "8:00 11 22 33 44 00 00 26 51 00 00 39 " + RICH_ENDS + RICH_REST, "turn", 5, 0, 0);
        Edge.of("n12;ib119;").becomes(59, "12:00 00 00 00 00 00 00 00 00 00 00 09 -8 -8" + REST, "turn", 11, 0, 9);
        Edge.of("n02;").becomes(0, "2:00 10 00 00 00 00 00 00 00 00 00 00 -8 -8" + REST, "turn", 1, 1, 0);
        for (int inch : new int[] {-1, 8, 11, 12, LEAST, GREATEST}) {
            rich.refuses(-1, "turn", inch, 0, 0);
            rich.refuses(-1, "turn", inch, 6, 0);
            rich.refuses(-1, "turn", inch, 0, -1);
            rich.refuses(-1, "turn", inch, -1, 10);
        }
        for (int kind : new int[] {-1, 6, LEAST, GREATEST}) {
            rich.refuses(-2, "turn", 0, kind, 0);
            rich.refuses(-2, "turn", 7, kind, -1);
            rich.refuses(-2, "turn", 7, kind, 10);
        }
        for (int kind = 0; kind <= 5; kind++) {
            rich.refuses(-4, "turn", 0, kind, -1);
            rich.refuses(-4, "turn", 7, kind, LEAST);
            rich.refuses(-6, "turn", 0, kind, 10);
            rich.refuses(-6, "turn", 7, kind, GREATEST);
        }
        Edge.of("n02;").refuses(-1, "turn", 2, 0, 0);
        Edge.of("n12;").refuses(-1, "turn", 12, 0, 0);
    }

    private static void inches() {
        Edge rich = Edge.rich();
        for (int n : new int[] {2, 3, 8, 11, 12}) {
            rich.becomes(8, n + RICH_INCHES.substring(1) + RICH_ENDS + RICH_REST, "inches", n);
        }
        for (int n : new int[] {1, 0, -1, LEAST}) {
            rich.refuses(-4, "inches", n);
        }
        for (int n : new int[] {13, 14, GREATEST}) {
            rich.refuses(-6, "inches", n);
        }
        Edge.of("n02;").refuses(-4, "inches", 1);
        Edge.of("n12;").refuses(-6, "inches", 13);
        Edge.of("n02;").becomes(2, "12:00 00 00 00 00 00 00 00 00 00 00 00 -8 -8" + REST, "inches", 12);
        Edge.of("n12;").becomes(12, "2:00 00 00 00 00 00 00 00 00 00 00 00 -8 -8" + REST, "inches", 2);
    }

    private static void inchesBeyondStay() {
        GoneIntoItsTunnel x = Due.told("n12;is021;ib119;");
        x.inches(2);
        // What is done to those that are there does not reach those beyond.
        x.turn(0, 2, 2);
        x.turn(1, 2, 3);
        Due.is("turn(2, 0, 0)", x.turn(2, 0, 0), -1);
        Due.is("inches(3)", x.inches(3), 2);
        Due.is("inch(2, 0)", x.inch(2, 0), 1);
        Due.is("inch(2, 1)", x.inch(2, 1), 1);
        Due.is("inches(12)", x.inches(12), 3);
        Due.is("inch(11, 0)", x.inch(11, 0), 5);
        Due.is("inch(11, 1)", x.inch(11, 1), 9);
        // A HEM may tell a number of INCHES, too, and those beyond stay.
        Due.tell(x, "n02;n12;");
        Due.is("inch(11, 1)", x.inch(11, 1), 9);
    }

    private static void end() {
        Edge rich = Edge.rich();
        for (int v : new int[] {-40, -39, -1, 0, 1, 23, 24}) {
            rich.becomes(5, RICH_INCHES + v + " -11" + RICH_REST, "end", 0, v);
            rich.becomes(-11, RICH_INCHES + "5 " + v + RICH_REST, "end", 1, v);
        }
        Edge.of("k0;s;").becomes(-8, CLOTH + "24 -8 knots 10 stitch 1 pin 3 pull 3", "end", 0, 24);
        for (int end : new int[] {-1, 2, 3, LEAST, GREATEST}) {
            rich.refuses(1000000001, "end", end, 0);
            rich.refuses(1000000001, "end", end, -41);
            rich.refuses(1000000001, "end", end, 25);
        }
        for (int end = 0; end <= 1; end++) {
            rich.refuses(1000000004, "end", end, -41);
            rich.refuses(1000000004, "end", end, LEAST);
            rich.refuses(1000000006, "end", end, 25);
            rich.refuses(1000000006, "end", end, GREATEST);
        }
    }

    private static void tie() {
        Edge rich = Edge.rich();
        rich.becomes(1, RICH_INCHES + RICH_ENDS + " knots 11 stitch 0 pin 6 pull 4", "tie", 0);
        rich.becomes(0, RICH_INCHES + RICH_ENDS + " knots 00 stitch 0 pin 6 pull 4", "tie", 1);
        for (int end : new int[] {-1, 2, LEAST, GREATEST}) {
            rich.refuses(-1, "tie", end);
        }
    }

    private static void sew() {
        Edge.rich().becomes(1, RICH_INCHES + RICH_ENDS + " knots 01 stitch 1 pin 6 pull 4", "sew");
        Edge.of("s;").becomes(0, CLOTH + "-8 -8" + REST, "sew");
    }

    private static void set() {
        Edge rich = Edge.rich();
        for (int v : new int[] {1, 2, 8, 9}) {
            rich.becomes(6, RICH_INCHES + RICH_ENDS + " knots 01 stitch 0 pin " + v + " pull 4", "set", 0, v);
        }
        for (int v : new int[] {0, 1, 8, 9}) {
            rich.becomes(4, RICH_INCHES + RICH_ENDS + " knots 01 stitch 0 pin 6 pull " + v, "set", 1, v);
        }
        for (int what : new int[] {-1, 2, LEAST, GREATEST}) {
            rich.refuses(-2, "set", what, 5);
            rich.refuses(-2, "set", what, -1);
            rich.refuses(-2, "set", what, 10);
        }
        rich.refuses(-4, "set", 0, 0);
        rich.refuses(-4, "set", 0, -1);
        rich.refuses(-4, "set", 0, LEAST);
        rich.refuses(-4, "set", 1, -1);
        rich.refuses(-4, "set", 1, LEAST);
        for (int what = 0; what <= 1; what++) {
            rich.refuses(-6, "set", what, 10);
            rich.refuses(-6, "set", what, GREATEST);
        }
    }

    private static void pull() {
        Edge fresh = Edge.fresh();
        fresh.becomes(-9, CLOTH + "-9 -7" + REST, "pull", 0, 1);
        fresh.becomes(-9, CLOTH + "-7 -9" + REST, "pull", 1, 1);
        Edge far = Edge.of("e0+00;e1-16;");
        far.becomes(-39, CLOTH + "-39 23" + REST, "pull", 0, 39);
        far.becomes(-40, CLOTH + "-40 24" + REST, "pull", 0, 40);
        Edge.of("e0-16;e1+00;").becomes(-40, CLOTH + "24 -40" + REST, "pull", 1, 40);
        // END 1 has a KNOT: 11 to go for it.
        Edge.rich().becomes(-6, RICH_INCHES + "-6 0" + RICH_REST, "pull", 0, 11);
        Edge.rich().becomes(-6, RICH_INCHES + "-6 0" + RICH_REST, "pull", 0, 12);
        Edge.rich().becomes(-5, RICH_INCHES + "-5 -1" + RICH_REST, "pull", 0, 10);
        for (int end : new int[] {-1, 2, LEAST, GREATEST}) {
            Edge.rich().refuses(1000000001, "pull", end, 1);
            Edge.rich().refuses(1000000001, "pull", end, 0);
            Edge.rich().refuses(1000000001, "pull", end, 41);
        }
        for (int end = 0; end <= 1; end++) {
            Edge.rich().refuses(1000000004, "pull", end, 0);
            Edge.rich().refuses(1000000004, "pull", end, -1);
            Edge.rich().refuses(1000000004, "pull", end, LEAST);
            Edge.rich().refuses(1000000006, "pull", end, 41);
            Edge.rich().refuses(1000000006, "pull", end, GREATEST);
        }
    }

    private static void pullThatCanNotGo() {
        // The STITCH; as far OUT as can be; the other as deep as can be; the other with a KNOT, at 0 and deeper.
        String[] texts = {"s;", "e0-40;", "e1+24;", "k1;e1+00;", "k1;e1+09;"};
        for (String text : texts) {
            Edge edge = Edge.of(text);
            edge.refuses(1000000003, "pull", 0, 1);
            edge.refuses(1000000003, "pull", 0, 40);
            // STATE is told last.
            edge.refuses(1000000001, "pull", 2, 1);
            edge.refuses(1000000004, "pull", 0, 0);
            edge.refuses(1000000006, "pull", 0, 41);
        }
        Edge.of("e0-39;").becomes(-40, CLOTH + "-40 -7" + REST, "pull", 0, 40);
        Edge.of("e1+23;").becomes(-9, CLOTH + "-9 24" + REST, "pull", 0, 40);
        Edge.of("k1;e1-01;").becomes(-9, CLOTH + "-9 0 knots 01 stitch 0 pin 3 pull 3", "pull", 0, 40);
    }

    private static void bunch() {
        Edge.rich().becomes(2, RICH_INCHES + "2 -11" + RICH_REST, "bunch", 0);
        Edge.rich().refuses(1000000003, "bunch", 1);
        Edge.of("e1+00;e0+00;").refuses(1000000003, "bunch", 0);
        Edge.of("e1+00;e0+00;").refuses(1000000003, "bunch", 1);
        Edge.of("e1+01;").becomes(0, CLOTH + "-8 0" + REST, "bunch", 1);
        Edge.of("e0+24;").becomes(22, CLOTH + "22 -8" + REST, "bunch", 0);
        // A LINING moves it not at all, and that is no REFUSAL.
        Edge.of("il000;e0+02;").becomes(2, "6:30 00 00 00 00 00 00 00 00 00 00 00 2 -8" + REST, "bunch", 0);
        for (int end : new int[] {-1, 2, LEAST, GREATEST}) {
            Edge.rich().refuses(1000000001, "bunch", end);
            Edge.fresh().refuses(1000000001, "bunch", end);
        }
    }

    private static void anew() {
        // Rich: 4 + 9 + 4 + (9 + 3) + 6 + 9 + 4 + 4, and 10 less 6 for each of three SEAMS.
        Edge.rich().becomes(64, RICH_INCHES + "-8 -8" + RICH_REST, "anew");
        Edge.fresh().becomes(24, CLOTH + "-8 -8" + REST, "anew");
        Edge.of("n02;p93;").becomes(8, "2:00 00 00 00 00 00 00 00 00 00 00 00 -8 -8 knots 00 stitch 0 pin 9 pull 3",
                "anew");
        // The most: twelve LININGS with FIGURE 9, and PIN 1.
        GoneIntoItsTunnel x = new GoneIntoItsTunnel();
        x.inches(12);
        for (int inch = 0; inch < 12; inch++) {
            x.turn(inch, 3, 9);
        }
        x.set(0, 1);
        Due.is("anew()", x.anew(), 324);
        x.set(0, 9);
        Due.is("anew()", x.anew(), 228);
    }

    private static void wash() {
        Edge slow = Edge.of("p31;");
        slow.becomes(0, CLOTH + "-7 -9 knots 00 stitch 0 pin 3 pull 1", "wash", 1);
        slow.becomes(0, CLOTH + "0 -16 knots 00 stitch 0 pin 3 pull 1", "wash", 8);
        slow.becomes(1, CLOTH + "1 -17 knots 00 stitch 0 pin 3 pull 1", "wash", 9);
        slow.becomes(1, CLOTH + "23 -39 knots 00 stitch 0 pin 3 pull 1", "wash", 31);
        slow.becomes(1, CLOTH + "24 -40 knots 00 stitch 0 pin 3 pull 1", "wash", 32);
        slow.becomes(1, CLOTH + "24 -40 knots 00 stitch 0 pin 3 pull 1", "wash", 40);
        Edge.of("e0+04;e1+04;").becomes(2, CLOTH + "7 1" + REST, "wash", 1);
        Edge.of("e0+04;e1+03;").becomes(1, CLOTH + "7 0" + REST, "wash", 1);
        for (int n : new int[] {0, -1, LEAST}) {
            Edge.rich().refuses(-4, "wash", n);
        }
        for (int n : new int[] {41, 42, GREATEST}) {
            Edge.rich().refuses(-6, "wash", n);
        }
    }
}

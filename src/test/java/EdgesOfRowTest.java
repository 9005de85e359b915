/** The boundaries and REFUSALS of promises 31 to 37, a method for each promise or sentence of it. */
public final class EdgesOfRowTest {
    private static final int LEAST = Integer.MIN_VALUE;
    private static final int GREATEST = Integer.MAX_VALUE;
    private static final int[] NO_ENDS = {-1, 2, 3, LEAST, GREATEST};
    private static final int[] NO_WHATS = {-1, 2, 3, LEAST, GREATEST};

    public static void main(String[] args) {
        whichOfNoRow();
        whichOfEachKind();
        whichOfEachPull();
        whichAsksForAllOfTheRow();
        whichRefuses();
        row();
        rowWhenAllAreThere();
        judge();
        judgeRefuses();
        lotsFromOneToTwenty();
        lotsOfEndsThatNeverAreOut();
        lotsWrapAround();
        lotsRefuse();
        image();
        onWithoutAnImage();
        onOfAllThatThereIs();
        onOfNothingElse();
        count();
        countOfRefusals();
        Due.close();
    }

    private static void whichIs(int due, String text, int inch, int what, int... numbers) {
        GoneIntoItsTunnel x = Due.told(text);
        Due.row(x, numbers);
        String before = Due.state(x);
        Due.is(text + " which(" + inch + ", " + what + ")", x.which(inch, what), due);
        Due.is("again", x.which(inch, what), due);
        Due.is("the ROW stays", x.count(7), numbers.length);
        Due.same("what is there behind which()", Due.state(x), before);
        Due.same("REFUSALS behind which()", Due.refusals(x), "0 0 0 0 0 0");
    }

    private static void whichOfNoRow() {
        for (int inch = 0; inch < 6; inch++) {
            whichIs(63, "p33;", inch, 0);
            whichIs(1023, "p33;", inch, 1);
        }
        // Behind no WASH nothing tells one KIND from another.
        whichIs(63, "p33;", 0, 0, 42);
        whichIs(1023, "p33;", 0, 1, 42);
        whichIs(0, "p33;", 0, 0, 41);
        whichIs(0, "p33;", 0, 1, 43);
    }

    private static void whichOfEachKind() {
        // With PULL 5: CLOTH 5, SEAM 2, ELASTIC 6, LINING 2, VELVET 5, BEADED 0.
        int[] in = {47, 44, 48, 44, 47, 42};
        int[] due = {1 + 16, 2 + 8, 4, 2 + 8, 1 + 16, 32};
        for (int kind = 0; kind < 6; kind++) {
            whichIs(due[kind], "p35;", 0, 0, 42, in[kind]);
            whichIs(due[kind], "p35;i" + "cselvb".charAt(kind) + "009;", 0, 0, 42, in[kind]);
        }
        whichIs(0, "p35;", 0, 0, 42, 43);
        whichIs(0, "p35;", 0, 0, 42, 49);
        // With PULL 0 and 1 more KINDS are alike.
        whichIs(1 + 2 + 8 + 16 + 32, "p30;", 0, 0, 42, 42);
        whichIs(4, "p30;", 0, 0, 42, 43);
        whichIs(2 + 8 + 32, "p31;", 0, 0, 42, 42);
        // INCHES where neither END comes, and the last INCH, where END 1 is drawn in.
        whichIs(63, "p33;", 5, 0, 42, 45);
        whichIs(1 + 16, "e1-07;", 5, 0, 42, 39);
        whichIs(63, "e1-07;", 0, 0, 42, 39);
    }

    private static void whichOfEachPull() {
        for (int pull = 0; pull <= 9; pull++) {
            whichIs(1 << pull, "p35;", 0, 1, 42, 42 + pull);
            whichIs(1 << pull, "p30;", 5, 1, 42, 42 + pull);
            whichIs(1 << pull, "ie000;", 3, 1, 42, 43 + pull);
        }
        for (int half = 0; half <= 4; half++) {
            whichIs(3 << 2 * half, "is000;", 0, 1, 42, 42 + half);
        }
        whichIs(0, "p33;", 0, 1, 42, 52);
        whichIs(0, "ie000;", 0, 1, 42, 42);
        whichIs(0, "is000;", 0, 1, 42, 47);
    }

    private static void whichAsksForAllOfTheRow() {
        whichIs(1 + 16, "p33;", 0, 0, 42, 45, 48, 51, 54, 57, 60, 63, 66, 69, 72, 74);
        whichIs(0, "p33;", 0, 0, 42, 45, 48, 51, 54, 57, 60, 63, 66, 69, 72, 75);
        whichIs(0, "p33;", 0, 0, 41, 45, 48, 51, 54, 57, 60, 63, 66, 69, 72, 74);
        whichIs(8, "p33;", 0, 1, 42, 45, 48, 51, 54, 57, 60, 63, 66, 69, 72, 74);
        whichIs(0, "p33;", 0, 1, 42, 45, 48, 51, 54, 57, 60, 63, 66, 69, 72, 73);
        // It is IN of END 0 that the ROW tells, whichever is drawn in.
        whichIs(63, "e0-40;e1-09;", 5, 0, 10, 10);
        whichIs(63, "e0-39;e1-09;", 5, 0, 11);
        whichIs(63 - 32, "e0-39;e1-09;", 5, 0, 11, 10);
        whichIs(32, "e0-39;e1-09;", 5, 0, 11, 11);
    }

    private static void whichRefuses() {
        for (Edge edge : new Edge[] {Edge.rich(), Edge.richWithAllOfTheRow()}) {
            for (int inch : new int[] {-1, 8, 11, 12, LEAST, GREATEST}) {
                edge.refuses(-1, "which", inch, 0);
                edge.refuses(-1, "which", inch, 1);
                // NOBODY is told ahead of OTHER.
                edge.refuses(-1, "which", inch, -1);
                edge.refuses(-1, "which", inch, 2);
            }
            for (int what : NO_WHATS) {
                edge.refuses(-2, "which", 0, what);
                edge.refuses(-2, "which", 7, what);
            }
        }
        Edge.of("n02;").refuses(-1, "which", 2, 0);
        Edge.of("n02;").answers(63, "which", 1, 0);
        Edge.of("n12;").refuses(-1, "which", 12, 0);
        Edge.of("n12;").answers(63, "which", 11, 0);
    }

    private static void row() {
        for (int v : new int[] {0, 1, 98, 99}) {
            GoneIntoItsTunnel x = new GoneIntoItsTunnel();
            Due.is("row(" + v + ")", x.row(v), 1);
            Due.is("count(7)", x.count(7), 1);
        }
        for (Edge edge : new Edge[] {Edge.fresh(), Edge.rich()}) {
            edge.refuses(-4, "row", -1);
            edge.refuses(-4, "row", LEAST);
            edge.refuses(-6, "row", 100);
            edge.refuses(-6, "row", GREATEST);
        }
        // The number itself is in the ROW: 10 and 74 are the least and the greatest that can be so.
        judgeIs(-9, "e0-40;", 0, 10);
        judgeIs(0, "e0-40;", 0, 9);
        judgeIs(-9, "e0+24;", 0, 74);
        judgeIs(0, "e0+24;", 0, 75);
    }

    private static void rowWhenAllAreThere() {
        GoneIntoItsTunnel x = new GoneIntoItsTunnel();
        for (int n = 1; n <= 12; n++) {
            Due.is("row " + n, x.row(42), n);
        }
        Due.is("row 13", x.row(42), -6);
        Due.is("count(7)", x.count(7), 12);
        Due.is("judge(0)", x.judge(0), 1);
        Due.is("the first behind it", x.row(42), 1);
        Edge full = Edge.richWithAllOfTheRow();
        for (int v : new int[] {0, 42, 99, 100, GREATEST}) {
            full.refuses(-6, "row", v);
        }
        // BELOW is told ahead of ROOM.
        full.refuses(-4, "row", -1);
        full.refuses(-4, "row", LEAST);
    }

    private static void judgeIs(int due, String text, int end, int... numbers) {
        GoneIntoItsTunnel x = Due.told(text);
        Due.row(x, numbers);
        String before = Due.state(x);
        Due.is(text + " judge(" + end + ")", x.judge(end), due);
        Due.is("the ROW has none then", x.count(7), 0);
        Due.same("what is there behind judge()", Due.state(x), before);
        Due.same("REFUSALS behind judge()", Due.refusals(x), "0 0 0 0 0 0");
        Due.is("judge(" + end + ") of no ROW", x.judge(end), -9);
        Due.is("a new one", x.row(0), 1);
    }

    private static void judge() {
        int[] due = {42, 45, 48, 51, 54, 57, 60, 63, 66, 69, 72, 74};
        int[] others = {42, 39, 36, 33, 30, 27, 24, 21, 18, 15, 12, 10};
        judgeIs(-9, "p33;", 0);
        judgeIs(-9, "p33;", 1);
        judgeIs(-9, "p33;", 0, due);
        judgeIs(-9, "p33;", 1, others);
        for (int at = 0; at < 12; at++) {
            int[] one = due.clone();
            int[] several = others.clone();
            one[at]++;
            for (int i = at; i < 12; i++) {
                several[i]--;
            }
            judgeIs(at, "p33;", 0, one);
            judgeIs(at, "p33;", 1, several);
        }
        judgeIs(1, "p33;", 1, due);
        judgeIs(-9, "p33;", 0, 42);
        judgeIs(-9, "s;", 1, 42, 42, 42);
        // From what there is each time: not from what it was when a HEM was told, nor from the last WASH in mind.
        GoneIntoItsTunnel x = Due.told("e0-09;");
        x.end(0, -8);
        for (int times = 0; times < 3; times++) {
            Due.row(x, 42, 45, 48);
            Due.is("judge(0)", x.judge(0), -9);
        }
        x.end(0, 5);
        Due.row(x, 55, 58);
        Due.is("judge(0)", x.judge(0), -9);
    }

    private static void judgeRefuses() {
        for (int end : NO_ENDS) {
            Edge.fresh().refuses(-1, "judge", end);
            Edge.rich().refuses(-1, "judge", end);
            Edge.richWithAllOfTheRow().refuses(-1, "judge", end);
        }
    }

    /** Sewn, so that PULL does not matter: each of the hems is as this one. */
    private static void lotsFromOneToTwenty() {
        for (int n = 1; n <= 20; n++) {
            Edge.of("s;").answers(0, "lots", n, 7, 0);
            Edge.of("s;").answers(0, "lots", n, 7, 1);
            Edge.of("s;e0+01;").answers(n, "lots", n, 7, 0);
            Edge.of("s;e0+01;").answers(3 * n, "lots", n, 7, 1);
            Edge.of("s;e0+01;e1+03;").answers(n, "lots", n, 7, 0);
            Edge.of("s;e0+01;e1+03;").answers(9 * n, "lots", n, 7, 1);
        }
        Edge.of("s;e0+00;e1+01;").answers(20, "lots", 20, 7, 0);
        Edge.of("ib000;").answers(0, "lots", 20, 7, 0);
        // With a DRAW of 0 an ELASTIC draws 1: by ten WASHES from -10 to 0, which is not LOST, from -9 to 1.
        int slow = seedOfDraw(0);
        Edge.of("ie000;e1-15;e0-10;").answers(0, "lots", 1, slow, 0);
        Edge.of("ie000;e1-15;e0-09;").answers(1, "lots", 1, slow, 0);
    }

    private static void lotsOfEndsThatNeverAreOut() {
        Edge.of("s;il000;e0+01;").answers(100, "lots", 1, 0, 1);
        Edge.of("s;il000;e0+01;").answers(2000, "lots", 20, 0, 1);
        Edge.of("s;il000;e0+01;").answers(20, "lots", 20, 0, 0);
        Edge.of("s;il000;e0+00;").answers(0, "lots", 20, 0, 1);
        Edge.of("s;il050;e1+01;").answers(100, "lots", 1, 0, 1);
        Edge.of("s;il050;e1+01;e0+03;").answers(106, "lots", 1, 0, 1);
    }

    private static long next(long z) {
        return (z * 1664525L + 1013904223L) % 4294967296L;
    }

    /** A DRAW below 10, by numbers that have no sign to lose. */
    private static int firstDraw(int seed) {
        return (int) (next(seed & 4294967295L) % 2147483648L / 256 % 10);
    }

    private static int seedOfDraw(int draw) {
        int seed = 0;
        while (firstDraw(seed) != draw) {
            seed++;
        }
        return seed;
    }

    private static void lotsWrapAround() {
        // Behind ten WASHES with each PULL from -8: as deep as this, and so many SECONDS.
        int[] in = {-8, 2, 12, 22, 24, 24, 24, 24, 24, 24};
        for (int draw = 0; draw <= 9; draw++) {
            Edge fresh = Edge.fresh();
            fresh.answers(in[draw] > 0 ? 1 : 0, "lots", 1, seedOfDraw(draw), 0);
            fresh.answers(in[draw] > 0 ? 3 * in[draw] / 2 : 0, "lots", 1, seedOfDraw(draw), 1);
        }
        // Seeds whose first z has the sign's bit and seeds whose has not, the ends of the range among them.
        int[] seeds = {0, 1, -1, 2, -2, 1000, -1000, LEAST, LEAST + 1, GREATEST, GREATEST - 1, 1 << 30, -(1 << 30)};
        int negative = 0;
        for (int seed : seeds) {
            long z = seed & 4294967295L;
            negative += next(z) >= 2147483648L ? 1 : 0;
            int seconds = 0;
            for (int lot = 1; lot <= 20; lot++) {
                z = next(z);
                seconds += Math.max(0, 3 * in[(int) (z % 2147483648L / 256 % 10)] / 2);
                if (lot == 1 || lot == 2 || lot == 20) {
                    Edge.fresh().answers(seconds, "lots", lot, seed, 1);
                }
            }
        }
        Due.is("both kinds of seeds", negative > 0 && negative < seeds.length ? 1 : 0, 1);
    }

    private static void lotsRefuse() {
        Edge rich = Edge.rich();
        for (int what = -1; what <= 2; what++) {
            for (int n : new int[] {0, -1, LEAST}) {
                rich.refuses(-4, "lots", n, 7, what);
            }
            for (int n : new int[] {21, 22, GREATEST}) {
                rich.refuses(-6, "lots", n, 7, what);
            }
        }
        for (int what : NO_WHATS) {
            rich.refuses(-2, "lots", 1, 7, what);
            rich.refuses(-2, "lots", 20, LEAST, what);
        }
    }

    private static void image() {
        for (int n : new int[] {2, 6, 12}) {
            GoneIntoItsTunnel x = new GoneIntoItsTunnel();
            x.inches(n);
            Due.is("image() of " + n, x.image(), n);
            Due.is("on() of " + n, x.on(), n);
        }
        // The next one takes the place of the one ahead of it.
        GoneIntoItsTunnel x = new GoneIntoItsTunnel();
        x.image();
        x.end(0, 24);
        String then = Due.state(x);
        Due.is("image()", x.image(), 6);
        x.end(0, -40);
        Due.is("on()", x.on(), 6);
        Due.same("as then", Due.state(x), then);
    }

    private static void onWithoutAnImage() {
        Edge.fresh().refuses(-3, "on");
        Edge.of("n12;il119;e0+24;k0;k1;s;p99;").refuses(-3, "on");
        // ON uses nothing up.
        GoneIntoItsTunnel x = new GoneIntoItsTunnel();
        Due.is("on()", x.on(), -3);
        Due.is("on()", x.on(), -3);
        Due.is("count(13)", x.count(13), 2);
        x.image();
        for (int times = 0; times < 3; times++) {
            Due.is("on()", x.on(), 6);
        }
        Due.is("count(13)", x.count(13), 2);
    }

    /** One thing changes behind THE IMAGE, and it alone has to come back. */
    private static void onOfAllThatThereIs() {
        String[] changes = {"n02;", "n12;", "is000;", "ic079;", "e0-40;", "e1+24;", "k0;", "k1;", "s;", "p14;", "p69;",
            "w40;"};
        for (String change : changes) {
            GoneIntoItsTunnel x = new GoneIntoItsTunnel();
            Due.tell(x, "n12;ib119;il089;n08;is011;ie076;e0+05;e1-11;k1;p64;");
            String then = Due.state(x);
            x.image();
            Due.tell(x, change);
            Due.is(change + " changes something", Due.state(x).equals(then) ? 1 : 0, 0);
            Due.is("on() behind " + change, x.on(), 8);
            Due.same("as then, behind " + change, Due.state(x), then);
        }
        // INCHES beyond the last are there, too: they come back as they were.
        GoneIntoItsTunnel x = Due.told("n12;ib119;n02;");
        x.image();
        Due.tell(x, "n12;ic110;n06;");
        Due.is("on()", x.on(), 2);
        x.inches(12);
        Due.is("inch(11, 0)", x.inch(11, 0), 5);
        Due.is("inch(11, 1)", x.inch(11, 1), 9);
    }

    private static void onOfNothingElse() {
        Edge.rich().becomes(9, Edge.RICH_IMAGE_STATE, "on");
        GoneIntoItsTunnel x = new GoneIntoItsTunnel();
        Due.row(x, 42);
        Due.letters(x, "s;");
        x.tie(2);
        String then = Due.state(x);
        Due.is("image()", x.image(), 6);
        Due.same("what is there behind image()", Due.state(x), then);
        Due.is("the ROW stays", x.count(7), 1);
        Due.is("letters stay", x.count(8), 2);
        Due.is("REFUSALS stay", x.count(11), 1);
        x.judge(0);
        x.hem();
        x.tie(2);
        Due.is("on()", x.on(), 6);
        Due.is("the ROW does not come back", x.count(7), 0);
        Due.is("letters do not come back", x.count(8), 0);
        Due.is("REFUSALS do not come back", x.count(11), 2);
        Due.is("the STITCH is not there again", x.count(3), 0);
    }

    private static void count() {
        int[] rich = {8, 1, 1, 0, 6, 4, 3, 3, 12};
        for (int what = 0; what < rich.length; what++) {
            Edge.rich().answers(rich[what], "count", what);
        }
        for (int what : new int[] {-1, -2, 9, 10, 17, 18, LEAST, LEAST + 10, LEAST + 11, GREATEST}) {
            Edge.rich().answers(-9, "count", what);
        }
        Edge.of("n12;").answers(12, "count", 0);
        Edge.of("n02;").answers(2, "count", 0);
        Edge.of("e0+00;e1+00;").answers(0, "count", 1);
        Edge.of("e0+01;e1+00;").answers(1, "count", 1);
        Edge.of("e0+00;e1+01;").answers(1, "count", 1);
        Edge.of("e0+01;e1+01;").answers(2, "count", 1);
        Edge.of("k0;").answers(1, "count", 2);
        Edge.of("k1;").answers(1, "count", 2);
        Edge.of("k0;k1;").answers(2, "count", 2);
        Edge.of("s;").answers(1, "count", 3);
        Edge.of("p10;").answers(1, "count", 4);
        Edge.of("p90;").answers(9, "count", 4);
        Edge.of("p30;").answers(0, "count", 5);
        Edge.of("p39;").answers(9, "count", 5);
        Edge.of("is000;il010;ib020;iv030;ie040;").answers(3, "count", 6);
        Edge.of("n12;is110;is000;").answers(2, "count", 6);
        Edge.of("n12;is110;is000;n11;").answers(1, "count", 6);
        Edge.richWithAllOfTheRow().answers(12, "count", 7);
        Edge.richWithAllLetters().answers(96, "count", 8);
    }

    /** Each REFUSAL so many times as none other; -5 there is none. */
    private static void countOfRefusals() {
        GoneIntoItsTunnel x = new GoneIntoItsTunnel();
        x.pull(2, 1);
        for (int i = 0; i < 2; i++) {
            x.lost(2);
        }
        for (int i = 0; i < 3; i++) {
            x.bunch(0);
        }
        for (int i = 0; i < 4; i++) {
            x.inIn(0, -1);
        }
        for (int i = 0; i < 6; i++) {
            x.end(0, 25);
        }
        Due.same("REFUSALS", Due.refusals(x), "1 2 3 4 0 6");
        Due.is("count(9)", x.count(9), -9);
        Due.is("count(10)", x.count(10), -9);
        Due.is("count(15)", x.count(15), 0);
        Due.is("count(17)", x.count(17), -9);
        Due.same("asked for, they stay", Due.refusals(x), "1 2 3 4 0 6");
        // As many as there can be in an object's 512 calls.
        GoneIntoItsTunnel often = new GoneIntoItsTunnel();
        for (int i = 1; i <= 511; i++) {
            often.tie(2);
        }
        Due.is("count(11)", often.count(11), 511);
    }
}

/** Promises 4 to 14: INCHES, ENDS, KNOTS, the STITCH, PIN, PULL; what moves an END. */
public final class ChangesTest {
    public static void main(String[] args) {
        inch();
        turn();
        inches();
        end();
        tie();
        sew();
        set();
        pull();
        pullAsFarAsItCan();
        bunch();
        anew();
        wash();
        washOfTheDeeperOne();
        Due.close();
    }

    private static void inch() {
        GoneIntoItsTunnel x = Due.told("ic009;is018;ie027;il036;iv045;ib054;");
        // KIND, FIGURE, BUNCH moves, SECONDS of it, SECONDS to thread, a wash draws with PULL 3, 0, 9, 8
        int[][] due = {
            {0, 9, 2, 3, 4, 3, 0, 9, 8},
            {1, 8, 1, 5, 9, 1, 0, 4, 4},
            {2, 7, 3, 3, 4, 4, 1, 10, 9},
            {3, 6, 0, 5, 15, 1, 0, 4, 4},
            {4, 5, 2, 8, 6, 3, 0, 9, 8},
            {5, 4, 1, 5, 9, 0, 0, 0, 0}};
        int[] pulls = {3, 0, 9, 8};
        for (int inch = 0; inch < 6; inch++) {
            for (int what = 0; what < 5; what++) {
                Due.is("inch(" + inch + ", " + what + ")", x.inch(inch, what), due[inch][what]);
            }
            for (int i = 0; i < pulls.length; i++) {
                x.set(1, pulls[i]);
                Due.is("inch(" + inch + ", 5) PULL " + pulls[i], x.inch(inch, 5), due[inch][5 + i]);
            }
        }
        Due.is("inch(-1, 0)", x.inch(-1, 0), -1);
        Due.is("inch(6, 0)", x.inch(6, 0), -1);
        Due.is("inch(6, 6)", x.inch(6, 6), -1);
        Due.is("inch(5, 6)", x.inch(5, 6), -2);
        Due.is("inch(0, -1)", x.inch(0, -1), -2);
        Due.same("refusals", Due.refusals(x), "3 2 0 0 0 0");
    }

    private static void turn() {
        GoneIntoItsTunnel x = new GoneIntoItsTunnel();
        Due.is("turn(0, 5, 9)", x.turn(0, 5, 9), 0);
        Due.is("turn(0, 0, 0)", x.turn(0, 0, 0), 59);
        Due.is("turn(5, 3, 7)", x.turn(5, 3, 7), 0);
        Due.is("turn(5, 4, 0)", x.turn(5, 4, 0), 37);
        Due.is("inch(5, 0)", x.inch(5, 0), 4);
        Due.is("inch(5, 1)", x.inch(5, 1), 0);
        Due.is("turn(6, 9, -1)", x.turn(6, 9, -1), -1);
        Due.is("turn(-1, 0, 0)", x.turn(-1, 0, 0), -1);
        Due.is("turn(5, 6, -1)", x.turn(5, 6, -1), -2);
        Due.is("turn(5, -1, 0)", x.turn(5, -1, 0), -2);
        Due.is("turn(5, 0, -1)", x.turn(5, 0, -1), -4);
        Due.is("turn(5, 0, 10)", x.turn(5, 0, 10), -6);
        Due.is("inch(5, 0)", x.inch(5, 0), 4);
        Due.same("refusals", Due.refusals(x), "2 2 0 1 0 1");
    }

    private static void inches() {
        GoneIntoItsTunnel x = new GoneIntoItsTunnel();
        x.turn(5, 3, 7);
        Due.is("inches(2)", x.inches(2), 6);
        Due.is("inch(5, 0)", x.inch(5, 0), -1);
        Due.is("inch(1, 0)", x.inch(1, 0), 0);
        Due.is("inches(12)", x.inches(12), 2);
        Due.is("inch(5, 0)", x.inch(5, 0), 3);
        Due.is("inch(5, 1)", x.inch(5, 1), 7);
        Due.is("inch(11, 0)", x.inch(11, 0), 0);
        Due.is("inch(12, 0)", x.inch(12, 0), -1);
        Due.is("inches(1)", x.inches(1), -4);
        Due.is("inches(13)", x.inches(13), -6);
        Due.is("count(0)", x.count(0), 12);
        Due.same("refusals", Due.refusals(x), "2 0 0 1 0 1");
    }

    private static void end() {
        GoneIntoItsTunnel x = new GoneIntoItsTunnel();
        Due.is("end(0, 24)", x.end(0, 24), -8);
        Due.is("end(1, -40)", x.end(1, -40), -8);
        Due.is("end(0, 5)", x.end(0, 5), 24);
        Due.is("end(1, 0)", x.end(1, 0), -40);
        Due.is("end(-1, 99)", x.end(-1, 99), 1000000001);
        Due.is("end(2, 0)", x.end(2, 0), 1000000001);
        Due.is("end(0, -41)", x.end(0, -41), 1000000004);
        Due.is("end(1, 25)", x.end(1, 25), 1000000006);
        Due.is("IN of END 0", Due.in(x, 0), 5);
        Due.is("IN of END 1", Due.in(x, 1), 0);
        // Neither a KNOT nor the STITCH hinders what is told.
        x.tie(0);
        x.sew();
        Due.is("end(0, 20)", x.end(0, 20), 5);
        Due.is("IN of END 0", Due.in(x, 0), 20);
        Due.same("refusals", Due.refusals(x), "2 0 0 1 0 1");
    }

    private static void tie() {
        GoneIntoItsTunnel x = new GoneIntoItsTunnel();
        Due.is("tie(0)", x.tie(0), 1);
        Due.is("count(2)", x.count(2), 1);
        Due.is("tie(1)", x.tie(1), 1);
        Due.is("count(2)", x.count(2), 2);
        Due.is("tie(0)", x.tie(0), 0);
        Due.is("tie(2)", x.tie(2), -1);
        Due.is("tie(-1)", x.tie(-1), -1);
        Due.is("count(2)", x.count(2), 1);
        Due.is("tie(1)", x.tie(1), 0);
        Due.is("count(11)", x.count(11), 2);
    }

    private static void sew() {
        GoneIntoItsTunnel x = new GoneIntoItsTunnel();
        Due.is("sew()", x.sew(), 1);
        Due.is("count(3)", x.count(3), 1);
        Due.is("wash(40)", x.wash(40), 0);
        Due.is("IN of END 0", Due.in(x, 0), -8);
        Due.is("sew()", x.sew(), 0);
        Due.is("count(3)", x.count(3), 0);
    }

    private static void set() {
        GoneIntoItsTunnel x = new GoneIntoItsTunnel();
        Due.is("set(0, 9)", x.set(0, 9), 3);
        Due.is("set(0, 1)", x.set(0, 1), 9);
        Due.is("set(1, 9)", x.set(1, 9), 3);
        Due.is("set(1, 0)", x.set(1, 0), 9);
        Due.is("set(2, -1)", x.set(2, -1), -2);
        Due.is("set(-1, 5)", x.set(-1, 5), -2);
        Due.is("set(0, 0)", x.set(0, 0), -4);
        Due.is("set(1, -1)", x.set(1, -1), -4);
        Due.is("set(0, 10)", x.set(0, 10), -6);
        Due.is("set(1, 10)", x.set(1, 10), -6);
        Due.is("count(4)", x.count(4), 1);
        Due.is("count(5)", x.count(5), 0);
        Due.same("refusals", Due.refusals(x), "0 2 0 2 0 2");
    }

    private static void pull() {
        GoneIntoItsTunnel x = new GoneIntoItsTunnel();
        Due.is("pull(0, 5)", x.pull(0, 5), -13);
        Due.is("IN of END 1", Due.in(x, 1), -3);
        Due.is("pull(1, 1)", x.pull(1, 1), -4);
        Due.is("IN of END 0", Due.in(x, 0), -12);
        Due.is("pull(2, 0)", x.pull(2, 0), 1000000001);
        Due.is("pull(-1, 1)", x.pull(-1, 1), 1000000001);
        Due.is("pull(0, 0)", x.pull(0, 0), 1000000004);
        Due.is("pull(0, 41)", x.pull(0, 41), 1000000006);
        x.sew();
        Due.is("pull(0, 0) sewn", x.pull(0, 0), 1000000004);
        Due.is("pull(0, 1) sewn", x.pull(0, 1), 1000000003);
        x.sew();
        Due.is("pull(1, 40)", x.pull(1, 40), -40);
        Due.is("IN of END 0", Due.in(x, 0), 24);
        Due.same("refusals", Due.refusals(x), "2 0 1 2 0 1");
    }

    private static void pullAsFarAsItCan() {
        GoneIntoItsTunnel x = Due.told("e0-38;e1-10;");
        Due.is("to -40", x.pull(0, 5), -40);
        Due.is("the other", Due.in(x, 1), -8);
        Due.is("no more", x.pull(0, 1), 1000000003);
        x = Due.told("e0+20;e1+22;");
        Due.is("the other to 24", x.pull(0, 9), 18);
        Due.is("the other", Due.in(x, 1), 24);
        Due.is("no more", x.pull(0, 1), 1000000003);
        x = Due.told("e0-03;e1-03;k1;");
        Due.is("the knot to 0", x.pull(0, 9), -6);
        Due.is("the knot", Due.in(x, 1), 0);
        Due.is("no more", x.pull(0, 1), 1000000003);
        Due.is("the knot's own END goes", x.pull(1, 9), -9);
        Due.is("the other", Due.in(x, 0), 3);
        // A KNOT at an END that is LOST already holds it where it is, and does not bring it back.
        x = Due.told("e0-03;e1+05;k1;");
        Due.is("no deeper", x.pull(0, 1), 1000000003);
        Due.is("no deeper", Due.in(x, 1), 5);
        Due.is("but out", x.pull(1, 7), -2);
        Due.is("count(13)", x.count(13), 1);
    }

    private static void bunch() {
        GoneIntoItsTunnel x = Due.told("is010;ie020;ib040;e0+06;e1+03;s;k0;");
        Due.is("elastic", x.bunch(0), 3);
        Due.is("seam", x.bunch(0), 2);
        Due.is("cloth", x.bunch(0), 0);
        Due.is("not lost", x.bunch(0), 1000000003);
        Due.is("the other stays", Due.in(x, 1), 3);
        Due.is("beaded", x.bunch(1), 2);
        Due.is("cloth", x.bunch(1), 0);
        Due.is("the other stays", Due.in(x, 0), 0);
        Due.is("no end", x.bunch(2), 1000000001);
        Due.is("no end", x.bunch(-1), 1000000001);
        Due.same("refusals", Due.refusals(x), "2 0 1 0 0 0");
        x = Due.told("e0+01;il050;e1+24;n02;ie010;");
        Due.is("0 at least", x.bunch(0), 0);
        x.inches(6);
        Due.is("deeper than all inches", x.bunch(1), 22);
        x.turn(0, 3, 0);
        Due.is("lining", x.bunch(1), 22);
    }

    private static void anew() {
        GoneIntoItsTunnel x = Due.told("n02;il019;p10;e0+24;e1-40;k0;s;");
        Due.is("anew()", x.anew(), 4 + 18 + 9);
        Due.is("IN of END 0", Due.in(x, 0), -8);
        Due.is("IN of END 1", Due.in(x, 1), -8);
        Due.is("count(2)", x.count(2), 1);
        Due.is("count(3)", x.count(3), 1);
        x = Due.told("ic009;is019;ie029;il039;iv049;ib059;p99;");
        Due.is("anew()", x.anew(), 4 + 9 + 4 + 18 + 6 + 9 + 3);
        Due.is("anew()", new GoneIntoItsTunnel().anew(), 24);
    }

    private static void wash() {
        GoneIntoItsTunnel x = new GoneIntoItsTunnel();
        Due.is("wash(2)", x.wash(2), 0);
        Due.is("IN of END 0", Due.in(x, 0), -2);
        Due.is("IN of END 1", Due.in(x, 1), -14);
        Due.is("wash(1)", x.wash(1), 1);
        Due.is("wash(40)", x.wash(40), 1);
        Due.is("IN of END 0", Due.in(x, 0), 24);
        Due.is("IN of END 1", Due.in(x, 1), -40);
        Due.is("wash(0)", x.wash(0), -4);
        Due.is("wash(41)", x.wash(41), -6);
        Due.same("refusals", Due.refusals(x), "0 0 0 1 0 1");
        x = Due.told("e0+09;e1+09;");
        Due.is("both lost", x.wash(1), 2);
        Due.is("IN of END 0", Due.in(x, 0), 12);
        Due.is("IN of END 1", Due.in(x, 1), 6);
    }

    private static void washOfTheDeeperOne() {
        GoneIntoItsTunnel x = Due.told("e0-09;e1-08;ie050;is000;");
        Due.is("END 1 is deeper", x.wash(1), 0);
        Due.is("IN of END 1", Due.in(x, 1), -4);
        Due.is("IN of END 0", Due.in(x, 0), -13);
        x = Due.told("is000;");
        x.wash(1);
        Due.is("alike: END 0, a seam", Due.in(x, 0), -7);
        x = Due.told("k0;");
        x.wash(40);
        Due.is("the knot at 0", Due.in(x, 0), 0);
        Due.is("the other", Due.in(x, 1), -16);
        x = Due.told("e0-38;e1+02;ic050;");
        x.wash(1);
        Due.is("as far as the other goes", Due.in(x, 1), 4);
        x = Due.told("ib000;");
        Due.is("beaded", x.wash(40), 0);
        Due.is("beaded", Due.in(x, 0), -8);
        x = Due.told("p30;ie000;");
        x.wash(3);
        Due.is("elastic without PULL", Due.in(x, 0), -5);
        x = Due.told("is020;il010;e0+02;p15;");
        x.wash(1);
        Due.is("cloth", Due.in(x, 0), 7);
        x = Due.told("is020;il010;e0+03;p15;");
        x.wash(2);
        Due.is("lining, then seam", Due.in(x, 0), 7);
    }
}

/** Promises 15 to 30: what is asked of the hem as it is, and in mind. */
public final class AnswersTest {
    public static void main(String[] args) {
        of();
        out();
        outDearestInch();
        outAgain();
        soonest();
        better();
        inIn();
        lost();
        still();
        keep();
        deep();
        stops();
        stopsBesidesWhatThereIs();
        stopsThreadsAnew();
        care();
        holdsUp();
        middle();
        cutOff();
        bestPin();
        worst();
        mindIsAlwaysNew();
        nothingChanges();
        Due.close();
    }

    private static void of() {
        GoneIntoItsTunnel x = Due.told("is000;ie010;il020;ib050;");
        int[] depths = {-40, 0, 1, 2, 3, 4, 5, 6, 7, 12, 13, 24};
        int[] inches = {0, 0, 0, 0, 1, 1, 2, 2, 3, 5, 5, 5};
        for (int i = 0; i < depths.length; i++) {
            x.end(0, depths[i]);
            x.end(1, depths[i]);
            String at = " at " + depths[i];
            Due.is("of(0, 0)" + at, x.of(0, 0), inches[i]);
            Due.is("of(1, 0)" + at, x.of(1, 0), 5 - inches[i]);
            Due.is("of(0, 1)" + at, x.of(0, 1), depths[i] >= 1 ? 1 : 0);
            Due.is("of(1, 1)" + at, x.of(1, 1), depths[i] >= 1 ? 1 : 0);
            Due.is("of(0, 2)" + at, x.of(0, 2), x.inch(inches[i], 2));
            Due.is("of(1, 3)" + at, x.of(1, 3), x.inch(5 - inches[i], 5));
        }
        x.end(0, 3);
        Due.is("of(0, 2)", x.of(0, 2), 3);
        Due.is("of(0, 3)", x.of(0, 3), 4);
        x.inches(2);
        x.end(1, 4);
        Due.is("of(1, 0)", x.of(1, 0), 0);
        Due.is("of(2, 9)", x.of(2, 9), -1);
        Due.is("of(-1, 0)", x.of(-1, 0), -1);
        Due.is("of(0, 4)", x.of(0, 4), -2);
        Due.is("of(1, -1)", x.of(1, -1), -2);
        Due.same("refusals", Due.refusals(x), "2 2 0 0 0 0");
    }

    private static void outIs(String text, int end, int bunches, int seconds, int inch) {
        GoneIntoItsTunnel x = Due.told(text);
        Due.is(text + " out(" + end + ", 0)", x.out(end, 0), bunches);
        Due.is(text + " out(" + end + ", 1)", x.out(end, 1), seconds);
        Due.is(text + " out(" + end + ", 2)", x.out(end, 2), inch);
    }

    private static void out() {
        outIs("e0+00;", 0, 0, 0, -9);
        outIs("e0-05;", 0, 0, 0, -9);
        outIs("e0+01;", 0, 1, 3, 0);
        outIs("e1+01;", 1, 1, 3, 5);
        outIs("e0+24;", 0, 12, 36, 5);
        outIs("e1+24;", 1, 12, 36, 0);
        outIs("is010;ie020;e0+06;", 0, 3, 11, 1);
        outIs("il020;e0+05;", 0, -9, -9, -9);
        outIs("il020;e0+04;", 0, 2, 6, 0);
        // An ELASTIC may carry it over a LINING's first half, and not over both.
        outIs("ie020;il010;e0+05;", 0, 2, 6, 0);
        outIs("ie020;il010;e0+06;", 0, -9, -9, -9);
        outIs("iv007;e0+02;", 0, 1, 10, 0);
        GoneIntoItsTunnel x = new GoneIntoItsTunnel();
        Due.is("out(2, 9)", x.out(2, 9), -1);
        Due.is("out(-1, 0)", x.out(-1, 0), -1);
        Due.is("out(0, 3)", x.out(0, 3), -2);
        Due.is("out(0, -1)", x.out(0, -1), -2);
        Due.same("refusals", Due.refusals(x), "2 2 0 0 0 0");
    }

    private static void outDearestInch() {
        outIs("e0+12;", 0, 6, 18, 0);
        outIs("e1+12;", 1, 6, 18, 5);
        outIs("is030;is020;e0+12;", 0, 8, 32, 2);
        outIs("is030;is020;e1+12;", 1, 8, 32, 3);
        outIs("iv029;ib040;e0+10;", 0, 6, 31, 2);
        outIs("iv027;ib040;e0+10;", 0, 6, 29, 2);
        outIs("iv026;ib040;e0+10;", 0, 6, 28, 4);
    }

    private static void outAgain() {
        GoneIntoItsTunnel x = Due.told("is010;e0+04;e1+12;");
        for (int round = 0; round < 3; round++) {
            Due.is("out(0, 0)", x.out(0, 0), 3);
            Due.is("out(1, 0)", x.out(1, 0), 7);
            Due.is("out(0, 1)", x.out(0, 1), 13);
            Due.is("out(1, 1)", x.out(1, 1), 25);
            Due.is("out(0, 2)", x.out(0, 2), 1);
            Due.is("out(1, 2)", x.out(1, 2), 1);
        }
        x.end(0, 0);
        Due.is("out(0, 0)", x.out(0, 0), 0);
        Due.is("out(0, 2)", x.out(0, 2), -9);
    }

    private static void soonest() {
        Due.is("neither", new GoneIntoItsTunnel().soonest(), -9);
        Due.is("neither at 0", Due.told("e0+00;e1+00;").soonest(), -9);
        Due.is("alike", Due.told("e0+02;e1+02;").soonest(), 0);
        Due.is("END 1", Due.told("e0+04;e1+02;").soonest(), 1);
        Due.is("END 0", Due.told("e0+02;e1+04;").soonest(), 0);
        Due.is("only END 1 is lost", Due.told("e1+09;").soonest(), 1);
        Due.is("only END 0 is lost", Due.told("e0+09;").soonest(), 0);
        Due.is("END 0 never", Due.told("il000;e0+01;e1+09;").soonest(), 1);
        Due.is("END 1 never", Due.told("il050;e0+09;e1+01;").soonest(), 0);
        Due.is("both never", Due.told("il000;il050;e0+01;e1+01;").soonest(), 9);
        Due.is("the lost one never", Due.told("il000;e0+01;").soonest(), 9);
        Due.is("the lost one never", Due.told("il050;e1+01;").soonest(), 9);
    }

    private static void better() {
        Due.is("not lost", new GoneIntoItsTunnel().better(1), 0);
        GoneIntoItsTunnel x = Due.told("n02;iv007;e0+02;");
        Due.is("better(0)", x.better(0), 10);
        Due.is("alike is not fewer", x.better(1), 0);
        x.turn(0, 4, 8);
        Due.is("fewer", x.better(1), 1);
        Due.is("END 0 alone", Due.told("n02;e0+04;").better(1), 0);
        Due.is("END 1 alone", Due.told("n02;e1+02;").better(1), 0);
        Due.is("both together", Due.told("n02;e0+04;e1+02;").better(1), 1);
        Due.is("END 0 never", Due.told("il000;e0+01;").better(1), 1);
        Due.is("END 1 never", Due.told("il050;e1+01;e0+02;").better(1), 1);
        Due.is("a lining where none is", Due.told("il030;e1+01;e0+02;").better(1), 0);
        x = Due.told("is000;ib010;il025;p70;");
        Due.is("better(0)", x.better(0), 9 + 9 + 14 + 12 + 9);
        Due.is("better(2)", x.better(2), -2);
        Due.is("better(-1)", x.better(-1), -2);
        Due.same("refusals", Due.refusals(x), "0 2 0 0 0 0");
    }

    private static void inIn() {
        GoneIntoItsTunnel x = Due.told("is010;ie020;e0-01;e1-05;");
        int[] first = {-1, 2, 5, 9, 12, 15, 18, 21, 24, 24};
        for (int n = 0; n < first.length; n++) {
            Due.is("inIn(0, " + n + ")", x.inIn(0, n), first[n]);
            Due.is("inIn(1, " + n + ")", x.inIn(1, n), -6 - first[n]);
        }
        Due.is("inIn(0, 200)", x.inIn(0, 200), 24);
        Due.is("inIn(2, -1)", x.inIn(2, -1), 1000000001);
        Due.is("inIn(-1, 0)", x.inIn(-1, 0), 1000000001);
        Due.is("inIn(0, -1)", x.inIn(0, -1), 1000000004);
        Due.is("inIn(1, 201)", x.inIn(1, 201), 1000000006);
        Due.same("refusals", Due.refusals(x), "2 0 0 1 0 1");
        Due.is("a knot", Due.told("k0;").inIn(0, 200), 0);
        Due.is("the stitch", Due.told("s;").inIn(0, 200), -8);
    }

    private static void lostIs(String text, int washes, int which) {
        GoneIntoItsTunnel x = Due.told(text);
        Due.is(text + " lost(0)", x.lost(0), washes);
        Due.is(text + " lost(1)", x.lost(1), which);
    }

    private static void lost() {
        lostIs("p33;", 3, 0);
        lostIs("e0+01;", 0, 0);
        lostIs("e1+01;", 0, 1);
        lostIs("e0+01;e1+20;", 0, 2);
        lostIs("e1+00;", 1, 1);
        lostIs("e0+00;", 1, 0);
        lostIs("k0;", -9, -9);
        lostIs("s;", -9, -9);
        lostIs("e0-40;e1-40;", -9, -9);
        lostIs("p30;ie000;", 9, 0);
        lostIs("e0-30;e1-09;p11;", 10, 1);
        lostIs("e0-31;e1-09;p11;", -9, -9);
        GoneIntoItsTunnel x = new GoneIntoItsTunnel();
        Due.is("lost(2)", x.lost(2), -2);
        Due.is("lost(-1)", x.lost(-1), -2);
        Due.is("count(12)", x.count(12), 2);
    }

    private static void still() {
        Due.is("new", new GoneIntoItsTunnel().still(), 11);
        Due.is("stitch", Due.told("s;").still(), 0);
        Due.is("knot", Due.told("k0;").still(), 3);
        Due.is("beaded", Due.told("ib010;").still(), 4);
        Due.is("no pull", Due.told("p30;").still(), 0);
        Due.is("all the way", Due.told("e0-40;e1+24;").still(), 0);
        Due.is("the longest", Due.told("e0-08;e1-08;p31;").still(), 32);
        Due.is("one to go", Due.told("e0-39;e1+23;").still(), 1);
    }

    private static void keep() {
        GoneIntoItsTunnel x = new GoneIntoItsTunnel();
        Due.is("keep(0)", x.keep(0), 3);
        Due.is("keep(2)", x.keep(2), 3);
        Due.is("keep(3)", x.keep(3), 4);
        Due.is("keep(5)", x.keep(5), 4);
        Due.is("keep(6)", x.keep(6), 5);
        Due.is("keep(35)", x.keep(35), 11);
        Due.is("keep(36)", x.keep(36), -9);
        Due.is("keep(999)", x.keep(999), -9);
        Due.is("keep(-1)", x.keep(-1), -4);
        Due.is("keep(1000)", x.keep(1000), -6);
        Due.same("refusals", Due.refusals(x), "0 0 0 1 0 1");
        Due.is("at once", Due.told("e0+01;").keep(2), 0);
        Due.is("both together", Due.told("e0+04;e1+02;s;").keep(8), 0);
        Due.is("both together", Due.told("e0+04;e1+02;s;").keep(9), -9);
        Due.is("never is more than all", Due.told("il010;").keep(999), 4);
    }

    private static void deep() {
        GoneIntoItsTunnel x = Due.told("is000;");
        Due.is("deep(0, 0)", x.deep(0, 0), -9);
        Due.is("deep(0, 4)", x.deep(0, 4), -9);
        Due.is("deep(0, 5)", x.deep(0, 5), 1);
        Due.is("deep(0, 7)", x.deep(0, 7), 1);
        Due.is("deep(0, 8)", x.deep(0, 8), 3);
        Due.is("deep(0, 10)", x.deep(0, 10), 3);
        Due.is("deep(0, 11)", x.deep(0, 11), 5);
        Due.is("deep(0, 13)", x.deep(0, 13), 5);
        Due.is("deep(0, 14)", x.deep(0, 14), 7);
        Due.is("deep(1, 2)", x.deep(1, 2), -9);
        Due.is("deep(1, 3)", x.deep(1, 3), 2);
        Due.is("deep(1, 15)", x.deep(1, 15), 10);
        Due.is("deep(1, 999)", x.deep(1, 999), 24);
        Due.is("deep(2, -1)", x.deep(2, -1), -1);
        Due.is("deep(-1, 0)", x.deep(-1, 0), -1);
        Due.is("deep(0, -1)", x.deep(0, -1), -4);
        Due.is("deep(0, 1000)", x.deep(0, 1000), -6);
        Due.same("refusals", Due.refusals(x), "2 0 0 1 0 1");
        Due.is("lining first", Due.told("il000;").deep(0, 999), -9);
        Due.is("lining third", Due.told("il020;").deep(0, 999), 4);
        // An ELASTIC steps over a LINING from some depths, and a deeper one may be among them.
        Due.is("over a lining", Due.told("ie020;il010;").deep(0, 6), 5);
        Due.is("over a lining", Due.told("ie020;il010;").deep(0, 999), 23);
        Due.is("elastic behind lining", Due.told("n02;il000;ie010;").deep(0, 999), 24);
        Due.is("elastic behind lining", Due.told("n02;il000;ie010;").deep(0, 23), 21);
    }

    private static void stopsIs(String text, int n, int stop, int seconds) {
        GoneIntoItsTunnel x = Due.told(text);
        Due.is(text + " stops(" + n + ", 0)", x.stops(n, 0), stop);
        Due.is(text + " stops(" + n + ", 1)", x.stops(n, 1), seconds);
    }

    private static void stops() {
        // END 0 is LOST behind WASH 3 first: 3 SECONDS, then 6 each (IN 3), 3 the last (IN 2).
        stopsIs("p33;", 0, 0, 0);
        stopsIs("p33;", 2, 0, 0);
        stopsIs("p33;", 3, 0, 3);
        stopsIs("p33;", 5, 0, 15);
        stopsIs("p33;", 6, 1, 20);
        stopsIs("p33;", 200, 1, 20);
        // One that is LOST already is mended behind the first WASH, not ahead of it.
        stopsIs("e0+04;", 0, 0, 0);
        stopsIs("e1-07;", 200, 2, 20);
        // Of several the least: 10 SECONDS for each WASH, or 20 for a KNOT.
        stopsIs("iv007;p31;e0+00;", 1, 0, 10);
        stopsIs("iv007;p31;e0+00;", 2, 0, 20);
        stopsIs("iv007;p31;e0+00;", 3, 1, 20);
        GoneIntoItsTunnel x = new GoneIntoItsTunnel();
        Due.is("stops(-1, 9)", x.stops(-1, 9), -4);
        Due.is("stops(201, 9)", x.stops(201, 9), -6);
        Due.is("stops(200, 2)", x.stops(200, 2), -2);
        Due.is("stops(0, -1)", x.stops(0, -1), -2);
        Due.same("refusals", Due.refusals(x), "0 2 0 1 0 1");
    }

    private static void stopsBesidesWhatThereIs() {
        stopsIs("k0;", 200, 0, 0);
        stopsIs("k1;", 200, 1, 20);
        stopsIs("s;", 200, 0, 0);
        stopsIs("s;e0+02;e1+02;", 200, 0, 6);
        stopsIs("s;k0;k1;", 200, 0, 0);
    }

    private static void stopsThreadsAnew() {
        // n 2: ANEW takes 8 SECONDS; IN 5 and more take 9 and more to BUNCH out.
        stopsIs("n02;e0+02;e1-40;", 1, 0, 3);
        stopsIs("n02;e0+04;e1-08;p30;", 1, 0, 6);
        stopsIs("n02;e0+05;e1-08;p30;", 1, 0, 8);
        // All is THREADED ANEW for END 0, so END 1 is not LOST any more.
        stopsIs("n02;e0+05;e1+05;p30;", 1, 0, 8);
        // END 0 is BUNCHED out, END 1 then is THREADED ANEW.
        stopsIs("n02;e0+02;e1+05;p30;", 1, 0, 11);
        // Alike: it is BUNCHED out, and the ENDS stay where they are, so the next WASH takes it in again.
        stopsIs("n02;iv007;e0+01;e1-39;p31;", 1, 0, 10);
        // A LINING: never out, so ANEW, 4 + 9 + 7.
        stopsIs("n02;il000;e0+01;e1-08;p30;", 1, 0, 20);
        stopsIs("n02;iv009;iv019;p39;", 200, 1, 20);
        // END 1 is in a LINING. With its own KNOT alone all is THREADED ANEW, and END 0 is drawn in from then on;
        // with END 0's alone a WASH takes it on into the ELASTIC, it is BUNCHED out, and drawn in from then on.
        stopsIs("n03;ie000;il010;iv029;p92;e1+04;", 1, 0, 15);
        stopsIs("n03;ie000;il010;iv029;p92;e1+04;", 200, 3, 60);
    }

    private static void careIs(String text, int n, int times) {
        Due.is(text + " care(" + n + ")", Due.told(text).care(n), times);
    }

    private static void care() {
        careIs("p33;", 0, 0);
        careIs("p33;", 2, 0);
        careIs("p33;", 3, 1);
        careIs("p33;", 11, 9);
        careIs("p33;", 200, 9);
        careIs("k0;", 200, 0);
        careIs("p31;", 200, 24);
        careIs("p31;", 9, 1);
        // Alike: it is BUNCHED out, not THREADED ANEW, and so is drawn in by the next WASH again.
        careIs("n02;iv007;p31;e0+00;", 5, 5);
        // A WASH that draws nothing is not the last, if one has to mend behind it.
        careIs("ib010;e0+03;", 1, 1);
        careIs("ib010;e0+03;", 3, 3);
        careIs("s;e0+02;", 200, 1);
        careIs("s;e1+02;", 200, 1);
        careIs("s;e0+02;e1+02;", 200, 2);
        // Each is mended: two BUNCHED out, or one ANEW for both.
        careIs("n02;e0+05;e1+05;p30;", 200, 1);
        careIs("n02;e0+02;e1+05;p30;", 200, 2);
        // A LINING at END 0's side: -8 -5 -2 1, ANEW, and so on: each third WASH.
        careIs("il000;p36;", 200, 66);
        careIs("il000;p36;", 2, 0);
        careIs("il000;p36;", 3, 1);
        careIs("il000;p36;", 6, 2);
        GoneIntoItsTunnel x = new GoneIntoItsTunnel();
        Due.is("care(-1)", x.care(-1), -4);
        Due.is("care(201)", x.care(201), -6);
        Due.same("refusals", Due.refusals(x), "0 0 0 1 0 1");
    }

    private static void holdsUp() {
        Due.is("not lost", Due.told("is000;").holdsUp(0), -9);
        Due.is("all cloth", Due.told("e0+12;").holdsUp(0), -9);
        Due.is("a seam", Due.told("is010;e0+06;").holdsUp(0), 1);
        Due.is("a seam further in", Due.told("is030;e0+06;").holdsUp(0), -9);
        Due.is("two alike, END 0", Due.told("is000;is010;e0+04;").holdsUp(0), 0);
        Due.is("two alike, END 1", Due.told("is040;is050;e1+04;").holdsUp(1), 4);
        Due.is("velvet dearer", Due.told("is000;iv019;e0+04;").holdsUp(0), 1);
        Due.is("velvet figure 0", Due.told("iv010;e0+04;").holdsUp(0), -9);
        Due.is("elastic is better", Due.told("ie010;e0+04;").holdsUp(0), -9);
        Due.is("one lining", Due.told("il010;is000;e0+04;").holdsUp(0), 1);
        Due.is("two linings", Due.told("il010;il000;e0+04;").holdsUp(0), -9);
        Due.is("the other end", Due.told("il010;e0+04;e1+04;").holdsUp(1), -9);
        GoneIntoItsTunnel x = new GoneIntoItsTunnel();
        Due.is("holdsUp(2)", x.holdsUp(2), -1);
        Due.is("holdsUp(-1)", x.holdsUp(-1), -1);
        Due.is("count(11)", x.count(11), 2);
    }

    private static void middleIs(String text, int middle) {
        Due.is(text + " middle()", Due.told(text).middle(), middle);
    }

    private static void middle() {
        middleIs("p33;", 0);
        middleIs("e0-03;", 2);
        middleIs("e1-03;", -2);
        middleIs("e0-07;", 0);
        middleIs("e1-07;", 0);
        middleIs("e0+24;e1-40;", 32);
        middleIs("e0-40;e1+24;", -32);
        middleIs("s;", 0);
        middleIs("s;e0-07;", 0);
        middleIs("s;e0-06;", 99);
        middleIs("k1;e0+10;e1-10;", 10);
        middleIs("k1;e0+12;e1-10;", 99);
        middleIs("k0;e0+12;e1-10;", 11);
        middleIs("k0;e0-10;e1+12;", 99);
        middleIs("k1;e0-10;e1+12;", -11);
        middleIs("k1;e0+20;e1+20;", 0);
    }

    private static void cutOff() {
        Due.is("new", new GoneIntoItsTunnel().cutOff(), 16);
        Due.is("one in", Due.told("e0+07;").cutOff(), 1);
        Due.is("just", Due.told("e0+08;").cutOff(), 0);
        Due.is("short", Due.told("e0+09;").cutOff(), 0);
        Due.is("far out", Due.told("e0-40;e1-40;").cutOff(), 80);
        Due.is("all in", Due.told("e0+24;e1+24;").cutOff(), 0);
    }

    private static void bestPin() {
        GoneIntoItsTunnel x = Due.told("is000;il015;p90;");
        // 9 + 14 + 4 times 4 is 39, and 2 for each that the PIN is below 10.
        Due.is("bestPin(999)", x.bestPin(999), 1);
        Due.is("bestPin(57)", x.bestPin(57), 1);
        Due.is("bestPin(56)", x.bestPin(56), 2);
        Due.is("bestPin(47)", x.bestPin(47), 6);
        Due.is("bestPin(41)", x.bestPin(41), 9);
        Due.is("bestPin(40)", x.bestPin(40), -9);
        Due.is("bestPin(0)", x.bestPin(0), -9);
        Due.is("bestPin(-1)", x.bestPin(-1), -4);
        Due.is("bestPin(1000)", x.bestPin(1000), -6);
        Due.same("refusals", Due.refusals(x), "0 0 0 1 0 1");
        Due.is("no seam", new GoneIntoItsTunnel().bestPin(24), 1);
        Due.is("no seam", new GoneIntoItsTunnel().bestPin(23), -9);
    }

    private static void worst() {
        Due.is("all alike", new GoneIntoItsTunnel().worst(), 0);
        Due.is("velvet", Due.told("iv049;iv059;").worst(), 4);
        Due.is("seam", Due.told("iv049;ib050;").worst(), 5);
        Due.is("seam and lining 0", Due.told("is020;il030;ib010;").worst(), 1);
        Due.is("lining", Due.told("is020;il031;il051;").worst(), 3);
        Due.is("lining 9", Due.told("is020;il031;il059;").worst(), 5);
        Due.is("beyond the last", Due.told("il059;n05;").worst(), 0);
    }

    /** Other questions ahead of it must not change an answer. */
    private static void mindIsAlwaysNew() {
        GoneIntoItsTunnel x = new GoneIntoItsTunnel();
        Due.is("inIn(0, 200)", x.inIn(0, 200), 24);
        Due.is("still()", x.still(), 11);
        Due.is("still()", x.still(), 11);
        Due.is("lost(0)", x.lost(0), 3);
        Due.is("lost(1)", x.lost(1), 0);
        Due.is("keep(30)", x.keep(30), 10);
        Due.is("keep(30)", x.keep(30), 10);
        Due.is("care(40)", x.care(40), 9);
        Due.is("care(40)", x.care(40), 9);
        Due.is("stops(5, 1)", x.stops(5, 1), 15);
        Due.is("stops(5, 1)", x.stops(5, 1), 15);
        Due.is("inIn(0, 2)", x.inIn(0, 2), -2);
        Due.is("lots(5, 7, 1)", x.lots(5, 7, 1), 144);
        Due.is("lots(5, 7, 1)", x.lots(5, 7, 1), 144);
        Due.row(x, 42, 45);
        Due.is("which(0, 0)", x.which(0, 0), 17);
        Due.is("which(0, 1)", x.which(0, 1), 8);
        Due.is("judge(0)", x.judge(0), -9);
        Due.is("holdsUp(0)", x.holdsUp(0), -9);
        Due.is("hem()", Due.tell(x, "e1-09;"), 1);
        Due.is("IN of END 0", Due.in(x, 0), -8);
        Due.is("IN of END 1", Due.in(x, 1), -9);
    }

    private static void nothingChanges() {
        GoneIntoItsTunnel x = Due.told("n08;is011;ie022;il033;iv044;ib055;e0+05;e1-11;k1;p64;");
        String before = Due.state(x);
        for (int end = 0; end <= 1; end++) {
            for (int what = 0; what <= 3; what++) {
                x.of(end, what);
                x.out(end, Math.min(what, 2));
            }
            x.inIn(end, 200);
            x.deep(end, 50);
            x.holdsUp(end);
        }
        for (int what = 0; what <= 1; what++) {
            x.better(what);
            x.lost(what);
            x.stops(200, what);
            x.which(0, what);
            x.lots(20, 5, what);
        }
        x.soonest();
        x.still();
        x.keep(50);
        x.care(200);
        x.middle();
        x.cutOff();
        x.bestPin(50);
        x.worst();
        x.judge(0);
        Due.same("after all questions", Due.state(x), before);
        Due.same("refusals", Due.refusals(x), "0 0 0 0 0 0");
    }
}

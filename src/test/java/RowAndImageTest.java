/** Promises 31 to 37: the ROW, hems by lot, THE IMAGE, and what is counted. */
public final class RowAndImageTest {
    public static void main(String[] args) {
        whichKinds();
        whichPulls();
        whichRefuses();
        row();
        judge();
        lotsOfCloth();
        lotsThatNeverAreOut();
        lotsRefuses();
        imageAndOn();
        imageLeavesTheRest();
        count();
        Due.close();
    }

    private static int which(String text, int inch, int what, int... numbers) {
        GoneIntoItsTunnel x = Due.told(text);
        Due.row(x, numbers);
        int answer = x.which(inch, what);
        Due.is("the row stays", x.count(7), numbers.length);
        return answer;
    }

    private static void whichKinds() {
        Due.is("no row", which("p33;", 0, 0), 63);
        Due.is("as it is now", which("p33;", 0, 0, 42), 63);
        Due.is("not as it is now", which("p33;", 0, 0, 43), 0);
        Due.is("moves 3", which("p33;", 0, 0, 42, 45), 1 + 16);
        Due.is("moves 1", which("p33;", 0, 0, 42, 43), 2 + 8);
        Due.is("moves 4", which("p33;", 0, 0, 42, 46), 4);
        Due.is("moves 0", which("p33;", 0, 0, 42, 42), 32);
        Due.is("moves 0, then 3", which("p33;", 0, 0, 42, 42, 45), 0);
        Due.is("another inch", which("p33;", 1, 0, 42, 45), 63);
        Due.is("the other's inch", which("e0-09;e1-08;", 5, 0, 41, 38), 1 + 16);
        Due.is("deeper inch", which("e0+02;p31;", 1, 0, 52, 53, 54), 1 + 16);
        Due.is("deeper inch", which("e0+02;p31;", 1, 0, 52, 53, 55), 4);
        Due.is("deeper inch", which("e0+02;p31;", 1, 0, 52, 53, 53), 2 + 8 + 32);
        Due.is("a kind that is there is not asked", which("ib000;", 0, 0, 42, 45), 1 + 16);
        Due.is("PULL 1", which("p31;", 0, 0, 42, 42), 2 + 8 + 32);
    }

    private static void whichPulls() {
        Due.is("no row", which("p33;", 0, 1), 1023);
        Due.is("cloth", which("p33;", 0, 1, 42, 45), 8);
        Due.is("cloth 9", which("p33;", 5, 1, 42, 51), 512);
        Due.is("cloth 0", which("p33;", 5, 1, 42, 42), 1);
        Due.is("seam", which("is000;", 3, 1, 42, 44), 16 + 32);
        Due.is("elastic", which("ie000;", 3, 1, 42, 43), 1);
        Due.is("beaded", which("ib000;", 3, 1, 42, 42), 1023);
        Due.is("beaded", which("ib000;", 3, 1, 42, 43), 0);
        Due.is("to the deepest", which("e0+20;", 0, 1, 70, 74), 1023 - 15);
    }

    private static void whichRefuses() {
        GoneIntoItsTunnel x = new GoneIntoItsTunnel();
        Due.row(x, 42);
        Due.is("which(6, 5)", x.which(6, 5), -1);
        Due.is("which(-1, 0)", x.which(-1, 0), -1);
        Due.is("which(5, 2)", x.which(5, 2), -2);
        Due.is("which(0, -1)", x.which(0, -1), -2);
        Due.is("count(7)", x.count(7), 1);
        Due.same("refusals", Due.refusals(x), "2 2 0 0 0 0");
    }

    private static void row() {
        GoneIntoItsTunnel x = new GoneIntoItsTunnel();
        Due.is("row(-1)", x.row(-1), -4);
        Due.is("row(100)", x.row(100), -6);
        Due.is("row(0)", x.row(0), 1);
        Due.is("row(99)", x.row(99), 2);
        for (int n = 3; n <= 12; n++) {
            Due.is("row(50)", x.row(50), n);
        }
        Due.is("row 13", x.row(50), -6);
        Due.is("row 13 below", x.row(-1), -4);
        Due.is("count(7)", x.count(7), 12);
        Due.same("refusals", Due.refusals(x), "0 0 0 2 0 2");
        Due.is("judge(0)", x.judge(0), 0);
        Due.is("row(1)", x.row(1), 1);
    }

    private static int judge(String text, int end, int... numbers) {
        GoneIntoItsTunnel x = Due.told(text);
        Due.row(x, numbers);
        int answer = x.judge(end);
        Due.is("the row has none", x.count(7), 0);
        return answer;
    }

    private static void judge() {
        Due.is("no row", judge("p33;", 0), -9);
        Due.is("all so", judge("p33;", 0, 42, 45, 48, 51), -9);
        Due.is("all so", judge("p33;", 1, 42, 39, 36, 33), -9);
        Due.is("the first", judge("p33;", 1, 43, 39), 0);
        Due.is("the second", judge("p33;", 1, 42, 45, 48), 1);
        Due.is("the last", judge("p33;", 0, 42, 45, 48, 52), 3);
        Due.is("twelve", judge("p33;", 0, 42, 45, 48, 51, 54, 57, 60, 63, 66, 69, 72, 74), -9);
        Due.is("the twelfth", judge("p33;", 0, 42, 45, 48, 51, 54, 57, 60, 63, 66, 69, 72, 75), 11);
        Due.is("the ends of it", judge("e0-40;e1+24;", 0, 10, 10), -9);
        GoneIntoItsTunnel x = new GoneIntoItsTunnel();
        Due.row(x, 42, 42);
        Due.is("judge(2)", x.judge(2), -1);
        Due.is("judge(-1)", x.judge(-1), -1);
        Due.is("count(7)", x.count(7), 2);
        Due.is("judge(0)", x.judge(0), 1);
        Due.is("judge(0)", x.judge(0), -9);
        Due.is("count(11)", x.count(11), 2);
    }

    /** The DRAW again, by numbers that have no sign to lose. */
    private static long next(long z) {
        return (z * 1664525L + 1013904223L) % 4294967296L;
    }

    private static void lotsOfCloth() {
        int[] seeds = {0, 1, 7, -1, -7, 12345, Integer.MAX_VALUE, Integer.MIN_VALUE, 987654321, -987654321};
        int[] in = {-8, 2, 12, 22, 24, 24, 24, 24, 24, 24};
        for (int seed : seeds) {
            for (int n : new int[] {1, 2, 5, 20}) {
                long z = seed < 0 ? seed + 4294967296L : seed;
                int hems = 0;
                int seconds = 0;
                for (int lot = 0; lot < n; lot++) {
                    z = next(z);
                    int depth = in[(int) (z % 2147483648L / 256 % 10)];
                    hems += depth > 0 ? 1 : 0;
                    seconds += depth > 0 ? 3 * ((depth + 1) / 2) : 0;
                }
                GoneIntoItsTunnel x = new GoneIntoItsTunnel();
                Due.is("lots(" + n + ", " + seed + ", 0)", x.lots(n, seed, 0), hems);
                Due.is("lots(" + n + ", " + seed + ", 1)", x.lots(n, seed, 1), seconds);
            }
        }
    }

    private static void lotsThatNeverAreOut() {
        GoneIntoItsTunnel x = Due.told("s;il000;e0+01;e1-01;");
        Due.is("one end", x.lots(20, 5, 0), 20);
        Due.is("one end", x.lots(20, 5, 1), 2000);
        x = Due.told("s;il000;e0+01;e1+03;");
        Due.is("two ends, one never", x.lots(3, 5, 0), 3);
        Due.is("two ends, one never", x.lots(3, 5, 1), 318);
        x = Due.told("s;e0+02;e1+03;");
        Due.is("two ends", x.lots(4, 5, 0), 4);
        Due.is("two ends", x.lots(4, 5, 1), 36);
    }

    private static void lotsRefuses() {
        GoneIntoItsTunnel x = new GoneIntoItsTunnel();
        Due.is("lots(0, 0, 9)", x.lots(0, 0, 9), -4);
        Due.is("lots(-5, 0, 0)", x.lots(-5, 0, 0), -4);
        Due.is("lots(21, 0, 9)", x.lots(21, 0, 9), -6);
        Due.is("lots(1, 0, 2)", x.lots(1, 0, 2), -2);
        Due.is("lots(20, 0, -1)", x.lots(20, 0, -1), -2);
        Due.same("refusals", Due.refusals(x), "0 2 0 2 0 1");
    }

    private static void imageAndOn() {
        GoneIntoItsTunnel x = Due.told("n09;is011;ie022;il033;iv044;ib085;e0+05;e1-11;k1;s;p64;");
        String then = Due.state(x);
        Due.is("on()", x.on(), -3);
        Due.is("image()", x.image(), 9);
        Due.is("hem()", Due.tell(x, "n12;iv118;ic080;is000;e0-20;e1+20;k0;k1;s;p77;"), 10);
        Due.is("on()", x.on(), 9);
        Due.same("as then", Due.state(x), then);
        x.inches(2);
        x.wash(1);
        Due.is("on()", x.on(), 9);
        Due.same("as then again", Due.state(x), then);
        x.inches(3);
        x.sew();
        String later = Due.state(x);
        Due.is("image()", x.image(), 3);
        x.tie(0);
        x.end(1, 1);
        Due.is("on()", x.on(), 3);
        Due.same("as later", Due.state(x), later);
        Due.is("count(13)", x.count(13), 1);
    }

    private static void imageLeavesTheRest() {
        GoneIntoItsTunnel x = new GoneIntoItsTunnel();
        Due.row(x, 42);
        Due.letters(x, "n0");
        x.tie(5);
        x.image();
        Due.row(x, 45, 48);
        Due.letters(x, "4;");
        x.tie(5);
        x.on();
        Due.is("count(7)", x.count(7), 3);
        Due.is("count(8)", x.count(8), 4);
        Due.is("count(11)", x.count(11), 2);
        Due.is("judge(0)", x.judge(0), -9);
        Due.is("hem()", x.hem(), 1);
        Due.is("on()", x.on(), 6);
        Due.is("count(8)", x.count(8), 0);
        // What is asked in mind must not reach THE IMAGE.
        x.stops(200, 0);
        x.lots(20, 1, 0);
        x.wash(5);
        Due.is("on()", x.on(), 6);
        Due.is("IN of END 0", Due.in(x, 0), -8);
    }

    private static void count() {
        GoneIntoItsTunnel x = Due.told("n09;is010;ie020;il030;iv040;ib080;e0+05;e1+01;k0;k1;s;p64;");
        Due.row(x, 1, 2, 3);
        Due.letters(x, "abcde");
        int[] due = {9, 2, 2, 1, 6, 4, 3, 3, 5};
        for (int what = 0; what < due.length; what++) {
            Due.is("count(" + what + ")", x.count(what), due[what]);
        }
        x.inches(8);
        Due.is("seams beyond the last", x.count(6), 2);
        x.turn(0, 1, 0);
        Due.is("a seam at the first", x.count(6), 3);
        x.turn(0, 0, 0);
        int[] others = {-1, 9, 10, 17, 18, 100, Integer.MIN_VALUE, Integer.MAX_VALUE};
        for (int what : others) {
            Due.is("count(" + what + ")", x.count(what), -9);
        }
        Due.same("refusals", Due.refusals(x), "0 0 0 0 0 0");
        x.tie(2);
        x.better(2);
        x.better(3);
        x.on();
        x.on();
        x.on();
        x.keep(-1);
        x.keep(-1);
        x.keep(-1);
        x.keep(-1);
        for (int i = 0; i < 6; i++) {
            x.keep(1000);
        }
        Due.same("refusals", Due.refusals(x), "1 2 3 4 0 6");
    }
}

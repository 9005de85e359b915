/** The boundaries and REFUSALS of promises 15 to 23, a method for each promise or sentence of it. */
public final class EdgesOfAnswersTest {
    private static final int LEAST = Integer.MIN_VALUE;
    private static final int GREATEST = Integer.MAX_VALUE;
    private static final int[] NO_ENDS = {-1, 2, 3, LEAST, GREATEST};
    private static final int[] NO_WHATS = {-1, 2, 3, LEAST, GREATEST};

    public static void main(String[] args) {
        of();
        outFromZeroOn();
        outThatNeverIs();
        outAtTheLastInch();
        outOfSeveralTheFirst();
        outRefuses();
        soonest();
        better();
        inIn();
        inInAsFarAsItGoes();
        lostAtOnceAndNever();
        lostAfterTheMost();
        lostRefuses();
        still();
        keep();
        keepOfWhatNeverIsOut();
        deep();
        deepFromOneToTwentyFour();
        Due.close();
    }

    private static void of() {
        Edge rich = Edge.rich();
        int[][] due = {{2, 1, 3, 5}, {7, 0, 3, 5}};
        for (int end = 0; end <= 1; end++) {
            for (int what = 0; what <= 3; what++) {
                rich.answers(due[end][what], "of", end, what);
            }
            for (int what : new int[] {-1, 4, LEAST, GREATEST}) {
                rich.refuses(-2, "of", end, what);
            }
        }
        for (int end : NO_ENDS) {
            rich.refuses(-1, "of", end, 0);
            rich.refuses(-1, "of", end, 3);
            // NOBODY is told ahead of OTHER.
            rich.refuses(-1, "of", end, -1);
            rich.refuses(-1, "of", end, 4);
        }
        // What the INCH there tells, also where the END could not go so far.
        Edge.of("e0+01;").answers(2, "of", 0, 2);
        Edge.of("e0+24;s;").answers(3, "of", 0, 3);
        Edge.of("ie050;p39;").answers(10, "of", 1, 3);
        Edge.of("il000;e0+01;").answers(0, "of", 0, 2);
        Edge.of("ib000;e0+01;p39;").answers(0, "of", 0, 3);
    }

    private static void outIs(String text, int end, int bunches, int seconds, int inch) {
        Edge edge = Edge.of(text);
        edge.answers(bunches, "out", end, 0);
        edge.answers(seconds, "out", end, 1);
        edge.answers(inch, "out", end, 2);
    }

    private static void outFromZeroOn() {
        for (int end = 0; end <= 1; end++) {
            outIs("e" + end + "-40;", end, 0, 0, -9);
            outIs("e" + end + "-01;", end, 0, 0, -9);
            outIs("e" + end + "+00;", end, 0, 0, -9);
            outIs("e" + end + "+01;", end, 1, 3, 5 * end);
            outIs("e" + end + "+02;", end, 1, 3, 5 * end);
            outIs("e" + end + "+03;", end, 2, 6, 5 * end);
            outIs("e" + end + "+23;", end, 12, 36, 5 - 5 * end);
            outIs("e" + end + "+24;", end, 12, 36, 5 - 5 * end);
            outIs("n12;e" + end + "+24;", end, 12, 36, 11 * end);
        }
        // Nothing is left of what was asked of the other END.
        GoneIntoItsTunnel x = Due.told("e0+05;e1+00;");
        for (int what = 0; what <= 2; what++) {
            Due.is("out(0, " + what + ")", x.out(0, what), what == 0 ? 3 : what == 1 ? 9 : 0);
            Due.is("out(1, " + what + ")", x.out(1, what), what == 2 ? -9 : 0);
        }
        // The most: half inch by half inch through SEAMS.
        outIs("n02;is000;is010;e0+24;", 0, 24, 120, 1);
        outIs("n02;is000;ib010;e1+24;", 1, 24, 120, 0);
    }

    private static void outThatNeverIs() {
        outIs("il000;e0+00;", 0, 0, 0, -9);
        outIs("il000;e0+01;", 0, -9, -9, -9);
        outIs("il000;e0+24;", 0, -9, -9, -9);
        outIs("il050;e1+01;", 1, -9, -9, -9);
        outIs("il010;e0+02;", 0, 1, 3, 0);
        outIs("il010;e0+03;", 0, -9, -9, -9);
        outIs("il010;e0+04;", 0, -9, -9, -9);
        outIs("n02;il010;e0+24;", 0, -9, -9, -9);
        // An ELASTIC carries it over from one half inch of its own, not from the other: 5 to 2, but 6 to 3.
        outIs("il010;ie020;e0+05;", 0, 2, 6, 0);
        outIs("il010;ie020;e0+06;", 0, -9, -9, -9);
        // The other END's way does not count.
        outIs("il050;e0+04;e1+04;", 0, 2, 6, 0);
    }

    private static void outAtTheLastInch() {
        // Of two INCHES the last is where all from 3 on is BUNCHED.
        outIs("n02;is010;e0+03;", 0, 2, 8, 1);
        outIs("n02;is010;e0+04;", 0, 3, 13, 1);
        outIs("n02;is010;e0+05;", 0, 4, 18, 1);
        outIs("n02;is000;e1+05;", 1, 4, 18, 0);
        outIs("n02;is000;e0+08;", 0, 5, 19, 0);
        // Alike, 10 and 10, where the last has several BUNCHES of its own.
        outIs("n02;is000;iv012;e0+06;", 0, 4, 20, 0);
        outIs("n02;is000;iv013;e0+06;", 0, 4, 22, 1);
    }

    private static void outOfSeveralTheFirst() {
        outIs("e0+10;", 0, 5, 15, 0);
        outIs("e1+10;", 1, 5, 15, 5);
        outIs("is010;ib030;e0+10;", 0, 7, 29, 1);
        outIs("is040;ib020;e1+10;", 1, 7, 29, 4);
        outIs("iv001;iv011;iv022;iv032;e0+10;", 0, 5, 21, 2);
        outIs("iv051;iv041;iv032;iv022;e1+10;", 1, 5, 21, 3);
    }

    private static void outRefuses() {
        Edge rich = Edge.rich();
        for (int end = 0; end <= 1; end++) {
            for (int what : new int[] {-1, 3, LEAST, GREATEST}) {
                rich.refuses(-2, "out", end, what);
            }
        }
        for (int end : NO_ENDS) {
            rich.refuses(-1, "out", end, 0);
            rich.refuses(-1, "out", end, 2);
            rich.refuses(-1, "out", end, -1);
            rich.refuses(-1, "out", end, 3);
        }
        // One that never is out is no REFUSAL, but another what is one there too.
        Edge.of("il000;e0+01;").refuses(-2, "out", 0, 3);
        Edge.of("il000;e0+01;").refuses(-2, "out", 0, -1);
    }

    private static void soonest() {
        String[] texts = {"e0+00;e1+00;", "e0+01;e1+00;", "e0+00;e1+01;", "e0+01;e1+01;", "e0+02;e1+02;",
            "e0+02;e1+03;", "e0+03;e1+02;", "iv000;e0+01;e1+01;", "iv001;e0+01;e1+01;", "iv051;e0+01;e1+01;",
            "il000;e0+00;e1+10;", "il000;e0+01;e1+10;", "il050;e0+10;e1+01;", "il050;e0+10;e1+00;",
            "il000;e0+01;e1+00;", "il050;e0+00;e1+01;", "il000;il050;e0+01;e1+01;", "il000;il050;e0+00;e1+00;"};
        int[] due = {-9, 0, 1, 0, 0, 0, 1, 0, 1, 0, 1, 1, 0, 0, 9, 9, 9, -9};
        for (int i = 0; i < texts.length; i++) {
            Edge.of(texts[i]).answers(due[i], "soonest");
        }
        Edge.rich().answers(0, "soonest");
    }

    private static void better() {
        // ANEW takes 8 and 2 times 4 more: as many SECONDS as BUNCHING takes is not fewer.
        Edge.of("n04;e0+11;").answers(1, "better", 1);
        Edge.of("n04;e0+10;").answers(0, "better", 1);
        Edge.of("n04;iv004;e0+10;").answers(1, "better", 1);
        Edge.of("n04;iv003;e0+10;").answers(0, "better", 1);
        Edge.of("n04;e0+06;e1+06;").answers(1, "better", 1);
        Edge.of("n04;e0+06;e1+04;").answers(0, "better", 1);
        Edge.of("n04;iv003;e0+06;e1+04;").answers(0, "better", 1);
        Edge.of("n04;iv004;e0+06;e1+04;").answers(1, "better", 1);
        Edge.of("n04;il000;e0+00;").answers(0, "better", 1);
        Edge.of("n04;il009;e0+01;").answers(1, "better", 1);
        Edge.of("n04;il039;e1+01;").answers(1, "better", 1);
        Edge.fresh().answers(0, "better", 1);
        Edge.of("n02;").answers(8, "better", 0);
        Edge.rich().answers(64, "better", 0);
        for (int what : NO_WHATS) {
            Edge.rich().refuses(-2, "better", what);
        }
    }

    private static void inIn() {
        Edge rich = Edge.rich();
        int[] first = {5, 10, 14, 18, 23, 24, 24};
        int[] second = {-11, -16, -20, -24, -29, -30, -30};
        for (int n = 0; n < first.length; n++) {
            rich.answers(first[n], "inIn", 0, n);
            rich.answers(second[n], "inIn", 1, n);
        }
        for (int end = 0; end <= 1; end++) {
            rich.answers(end == 0 ? 24 : -30, "inIn", end, 199);
            rich.answers(end == 0 ? 24 : -30, "inIn", end, 200);
            rich.refuses(1000000004, "inIn", end, -1);
            rich.refuses(1000000004, "inIn", end, LEAST);
            rich.refuses(1000000006, "inIn", end, 201);
            rich.refuses(1000000006, "inIn", end, GREATEST);
        }
        for (int end : NO_ENDS) {
            rich.refuses(1000000001, "inIn", end, 0);
            rich.refuses(1000000001, "inIn", end, -1);
            rich.refuses(1000000001, "inIn", end, 201);
        }
    }

    private static void inInAsFarAsItGoes() {
        Edge slow = Edge.of("p31;");
        slow.answers(23, "inIn", 0, 31);
        slow.answers(24, "inIn", 0, 32);
        slow.answers(24, "inIn", 0, 33);
        slow.answers(-39, "inIn", 1, 31);
        slow.answers(-40, "inIn", 1, 33);
        Edge.of("k0;").answers(-2, "inIn", 0, 2);
        Edge.of("k0;").answers(0, "inIn", 0, 3);
        Edge.of("k0;").answers(0, "inIn", 0, 200);
        Edge.of("k0;e0+03;").answers(3, "inIn", 0, 200);
        Edge.of("s;").answers(-8, "inIn", 0, 200);
        Edge.of("e1-40;").answers(-8, "inIn", 0, 200);
    }

    private static void lostIs(String text, int washes, int which) {
        Edge.of(text).answers(washes, "lost", 0);
        Edge.of(text).answers(which, "lost", 1);
    }

    private static void lostAtOnceAndNever() {
        lostIs("e0+01;", 0, 0);
        lostIs("e1+01;", 0, 1);
        lostIs("e0+01;e1+01;", 0, 2);
        lostIs("e0+24;e1+01;", 0, 2);
        lostIs("e0+01;e1+00;", 0, 0);
        lostIs("e0+00;e1+01;", 0, 1);
        lostIs("e0+00;e1+00;", 1, 0);
        lostIs("e0-03;", 2, 0);
        lostIs("e0-02;", 1, 0);
        lostIs("e1-03;", 2, 1);
        lostIs("e1-02;", 1, 1);
        String[] never = {"s;", "k0;", "p30;", "ib000;", "e0+00;e1-40;", "k1;e1-03;", "e0-40;e1-40;"};
        for (String text : never) {
            lostIs(text, -9, -9);
        }
        // The other END's KNOT does not hold the deeper one.
        lostIs("k1;", 3, 0);
    }

    private static void lostAfterTheMost() {
        // Half inch by half inch, till the other END is at -40: 20 WASHES are the most.
        lostIs("p31;e0-19;e1-20;", 20, 0);
        lostIs("p31;e0-20;e1-19;", 20, 1);
        lostIs("p31;e0-19;e1-21;", -9, -9);
        lostIs("p31;e0-20;e1-20;", -9, -9);
        lostIs("p31;e0-00;e1-39;", 1, 0);
        lostIs("p31;e0-01;e1-39;", -9, -9);
    }

    private static void lostRefuses() {
        for (int what : NO_WHATS) {
            Edge.rich().refuses(-2, "lost", what);
            Edge.of("s;").refuses(-2, "lost", what);
        }
        Edge.rich().answers(0, "lost", 0);
        Edge.rich().answers(0, "lost", 1);
    }

    private static void still() {
        String[] texts = {"s;", "p30;", "ib000;", "e0+24;", "e1-40;", "e0+24;e1+24;", "k0;e0+00;", "k0;e0+05;",
            "e0+23;", "e0+21;", "e0+20;", "e1-39;", "p31;", "p39;", "ie000;p39;", "k0;e0-01;", "ib010;e0+00;"};
        int[] due = {0, 0, 0, 0, 0, 0, 0, 0, 1, 1, 2, 1, 32, 4, 4, 1, 1};
        for (int i = 0; i < texts.length; i++) {
            Edge.of(texts[i]).answers(due[i], "still");
        }
        Edge.rich().answers(5, "still");
    }

    private static void keep() {
        Edge slow = Edge.of("p31;");
        slow.answers(9, "keep", 0);
        slow.answers(9, "keep", 2);
        slow.answers(11, "keep", 3);
        slow.answers(31, "keep", 35);
        slow.answers(-9, "keep", 36);
        slow.answers(-9, "keep", 999);
        Edge.of("e0+01;").answers(0, "keep", 0);
        Edge.of("e0+01;").answers(0, "keep", 2);
        Edge.of("e0+01;").answers(1, "keep", 3);
        Edge.of("e1+01;s;").answers(0, "keep", 2);
        Edge.of("e1+01;s;").answers(-9, "keep", 3);
        Edge.of("s;").answers(-9, "keep", 0);
        // Of all LOST ones together.
        Edge.of("e0+01;e1+03;s;").answers(0, "keep", 8);
        Edge.of("e0+01;e1+03;s;").answers(-9, "keep", 9);
        // The most SECONDS that there can be: twelve BUNCHES of 12 each, for both.
        Edge most = Edge.of("n02;iv009;iv019;e0+24;e1+24;");
        most.answers(0, "keep", 287);
        most.answers(-9, "keep", 288);
        for (int v : new int[] {-1, -2, LEAST}) {
            Edge.rich().refuses(-4, "keep", v);
        }
        for (int v : new int[] {1000, 1001, GREATEST}) {
            Edge.rich().refuses(-6, "keep", v);
        }
        Edge.rich().answers(0, "keep", 0);
        Edge.rich().answers(1, "keep", 999);
    }

    private static void keepOfWhatNeverIsOut() {
        Edge.of("il000;e0+01;s;").answers(0, "keep", 999);
        Edge.of("il050;e1+01;s;").answers(0, "keep", 999);
        Edge.of("il000;e0+00;s;").answers(-9, "keep", 999);
        Edge.of("il000;e0-01;").answers(2, "keep", 999);
        Edge.of("il000;e0-01;p30;").answers(-9, "keep", 999);
    }

    private static void deep() {
        Edge fresh = Edge.fresh();
        int[] seconds = {0, 2, 3, 5, 6, 32, 33, 35, 36, 999};
        int[] depths = {-9, -9, 2, 2, 4, 20, 22, 22, 24, 24};
        for (int end = 0; end <= 1; end++) {
            for (int i = 0; i < seconds.length; i++) {
                fresh.answers(depths[i], "deep", end, seconds[i]);
            }
            Edge.rich().refuses(-4, "deep", end, -1);
            Edge.rich().refuses(-4, "deep", end, LEAST);
            Edge.rich().refuses(-6, "deep", end, 1000);
            Edge.rich().refuses(-6, "deep", end, GREATEST);
        }
        for (int end : NO_ENDS) {
            Edge.rich().refuses(-1, "deep", end, 0);
            Edge.rich().refuses(-1, "deep", end, -1);
            Edge.rich().refuses(-1, "deep", end, 1000);
        }
        // Where the END is does not matter.
        Edge.of("e0+24;e1+24;").answers(2, "deep", 0, 3);
        Edge.of("e0-40;e1-40;k0;s;").answers(24, "deep", 0, 36);
    }

    private static void deepFromOneToTwentyFour() {
        Edge.of("is000;").answers(-9, "deep", 0, 4);
        Edge.of("is000;").answers(1, "deep", 0, 5);
        Edge.of("n02;is000;is010;").answers(23, "deep", 0, 119);
        Edge.of("n02;is000;is010;").answers(24, "deep", 0, 120);
        Edge.of("il000;").answers(-9, "deep", 0, 999);
        Edge.of("il000;").answers(10, "deep", 1, 999);
        Edge.of("il010;").answers(2, "deep", 0, 999);
        Edge.of("n02;il010;").answers(2, "deep", 0, 999);
        Edge.of("n02;il010;").answers(-9, "deep", 1, 999);
        // A deeper one may need fewer SECONDS, so what is between need not be in the time.
        Edge.of("is010;ie020;").answers(5, "deep", 0, 6);
        Edge.of("is010;ie020;").answers(5, "deep", 0, 8);
    }
}

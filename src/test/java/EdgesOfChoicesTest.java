/** The boundaries and REFUSALS of promises 24 to 30, a method for each promise or sentence of it. */
public final class EdgesOfChoicesTest {
    private static final int LEAST = Integer.MIN_VALUE;
    private static final int GREATEST = Integer.MAX_VALUE;
    private static final int[] NO_ENDS = {-1, 2, 3, LEAST, GREATEST};
    private static final int[] NO_WHATS = {-1, 2, 3, LEAST, GREATEST};

    public static void main(String[] args) {
        stopsOfNoWash();
        stopsOfSeveralTheLeast();
        stopsBesidesWhatThereIs();
        stopsMendEndZeroFirst();
        stopsAnewOnlyIfFewer();
        stopsRefuses();
        care();
        careRefuses();
        holdsUpOnlyFewer();
        holdsUpNeverLast();
        holdsUpOfSeveralTheLeast();
        holdsUpRefuses();
        middleCutTowardZero();
        middleOfKnotsAndTheStitch();
        cutOff();
        bestPin();
        bestPinRefuses();
        worst();
        Due.close();
    }

    private static void stopsIs(String text, int n, int stop, int seconds) {
        Edge edge = Edge.of(text);
        edge.answers(stop, "stops", n, 0);
        edge.answers(seconds, "stops", n, 1);
    }

    private static void stopsOfNoWash() {
        stopsIs("p33;", 0, 0, 0);
        // One has to mend behind a WASH alone.
        stopsIs("e0+24;e1+24;", 0, 0, 0);
        stopsIs("e0+24;e1+24;", 1, 0, 24);
        stopsIs("il000;e0+01;s;", 0, 0, 0);
        stopsIs("il000;e0+01;s;", 1, 0, 36);
        stopsIs("il000;e0+01;s;", 200, 0, 36);
        stopsIs("p33;", 200, 1, 20);
        stopsIs("p33;", 199, 1, 20);
    }

    private static void stopsOfSeveralTheLeast() {
        // Nothing and a KNOT: 6 behind the second WASH, ANEW 8 behind the third, 6 behind the fifth.
        stopsIs("n02;p16;", 4, 0, 14);
        stopsIs("n02;p16;", 5, 0, 20);
        stopsIs("n02;p16;", 6, 1, 20);
        stopsIs("n02;e0-20;p66;", 5, 0, 20);
        stopsIs("n02;e0-20;p66;", 6, 2, 20);
        // Nothing, a KNOT at END 0, one at END 1: 34 each.
        stopsIs("n03;iv028;e0-15;e1+03;p15;", 6, 0, 34);
        // Nothing and both KNOTS: 13 and ten times 3; 40 and 3.
        stopsIs("n03;ib011;e0+00;e1+02;p32;", 10, 0, 40);
        stopsIs("n03;ib011;e0+00;e1+02;p32;", 11, 0, 43);
        stopsIs("n03;ib011;e0+00;e1+02;p32;", 12, 3, 43);
        // A KNOT at END 0 and one at END 1: 32 each. A KNOT at END 0 and both: 66 each.
        stopsIs("n03;e1+08;p18;", 4, 1, 32);
        stopsIs("n04;ib024;e0+16;e1+19;p59;", 26, 1, 66);
        // One at END 1 alone; both alone.
        stopsIs("n03;e0-14;p66;", 8, 2, 20);
        stopsIs("n03;e0+02;e1+03;p55;", 8, 3, 49);
    }

    private static void stopsBesidesWhatThereIs() {
        stopsIs("n02;p39;", 9, 1, 20);
        stopsIs("n02;p39;k1;", 9, 1, 20);
        stopsIs("n02;p39;k0;", 9, 0, 0);
        stopsIs("n02;p39;s;", 9, 0, 0);
        stopsIs("n03;e0+02;e1+03;p55;k0;", 8, 2, 29);
        stopsIs("n03;e0+02;e1+03;p55;k0;k1;", 8, 0, 9);
        stopsIs("n03;e0+02;e1+03;p55;s;", 8, 0, 9);
    }

    private static void stopsMendEndZeroFirst() {
        // END 0 takes 9, ANEW 8, and END 1 is not LOST then; the other way round it would be 3 and 8.
        stopsIs("n02;s;e0+05;e1+02;", 1, 0, 8);
        stopsIs("n02;s;e0+02;e1+05;", 1, 0, 11);
        Edge.of("n02;s;e0+05;e1+02;").answers(1, "care", 1);
        Edge.of("n02;s;e0+02;e1+05;").answers(2, "care", 1);
    }

    private static void stopsAnewOnlyIfFewer() {
        stopsIs("n02;iv002;iv010;s;e0+04;", 1, 0, 8);
        stopsIs("n02;iv009;iv010;s;e0+02;", 1, 0, 12);
        // Alike it is BUNCHED out, and the other END stays: it is LOST, and costs, too.
        stopsIs("n02;iv009;iv010;s;e0+02;e1+02;", 1, 0, 15);
        stopsIs("n02;iv008;iv010;s;e0+02;e1+02;", 1, 0, 14);
        stopsIs("n02;iv009;ic010;s;e0+02;e1+02;", 1, 0, 10);
        // One that never is out: ANEW, whatever it takes.
        stopsIs("n12;il009;p10;s;e0+01;", 1, 0, 71);
    }

    private static void stopsRefuses() {
        Edge rich = Edge.rich();
        for (int what = -1; what <= 2; what++) {
            for (int n : new int[] {-1, -2, LEAST}) {
                rich.refuses(-4, "stops", n, what);
            }
            for (int n : new int[] {201, 202, GREATEST}) {
                rich.refuses(-6, "stops", n, what);
            }
        }
        for (int what : NO_WHATS) {
            rich.refuses(-2, "stops", 0, what);
            rich.refuses(-2, "stops", 200, what);
        }
    }

    private static void care() {
        // Behind each WASH: BUNCHED out from 1, as that is alike; ANEW from 9; and so on.
        Edge each = Edge.of("n02;iv009;iv019;p39;");
        for (int n : new int[] {0, 1, 2, 3, 199, 200}) {
            each.answers(n, "care", n);
        }
        Edge.fresh().answers(0, "care", 2);
        Edge.fresh().answers(1, "care", 3);
        Edge.of("s;").answers(0, "care", 200);
        Edge.of("s;e0+24;").answers(0, "care", 0);
        Edge.of("s;e0+24;").answers(1, "care", 1);
        Edge.of("s;e0+24;").answers(1, "care", 200);
        // Eight WASHES to 0, then one mends behind each, till the other END is at -40.
        Edge.of("p31;").answers(0, "care", 8);
        Edge.of("p31;").answers(1, "care", 9);
        Edge.of("p31;").answers(24, "care", 32);
        Edge.of("p31;").answers(24, "care", 33);
        Edge.of("p31;").answers(24, "care", 200);
        // As it is now: no KNOT comes that is not there.
        Edge.of("e0+00;p31;").answers(32, "care", 200);
        Edge.of("e0+00;p31;k0;").answers(0, "care", 200);
    }

    private static void careRefuses() {
        for (int n : new int[] {-1, -2, LEAST}) {
            Edge.rich().refuses(-4, "care", n);
        }
        for (int n : new int[] {201, 202, GREATEST}) {
            Edge.rich().refuses(-6, "care", n);
        }
    }

    private static void holdsUpOnlyFewer() {
        Edge.of("iv000;e0+02;").answers(-9, "holdsUp", 0);
        Edge.of("iv001;e0+02;").answers(0, "holdsUp", 0);
        Edge.of("is000;e0+00;").answers(-9, "holdsUp", 0);
        Edge.of("is000;e0+01;").answers(0, "holdsUp", 0);
        Edge.of("is010;e0+02;").answers(-9, "holdsUp", 0);
        Edge.of("is010;e0+03;").answers(1, "holdsUp", 0);
        Edge.of("ie010;e0+04;").answers(-9, "holdsUp", 0);
        Edge.of("is050;e1+01;").answers(5, "holdsUp", 1);
        Edge.of("is050;e0+12;").answers(5, "holdsUp", 0);
        Edge.of("is000;e1+12;").answers(0, "holdsUp", 1);
        Edge.of("n12;is110;e0+24;").answers(11, "holdsUp", 0);
        Edge.of("n02;is010;e0+24;").answers(1, "holdsUp", 0);
        // An INCH beyond the last is none.
        Edge.of("is050;n05;e0+24;").answers(-9, "holdsUp", 0);
    }

    private static void holdsUpNeverLast() {
        Edge.of("il000;e0+01;").answers(0, "holdsUp", 0);
        Edge.of("il000;is010;e0+04;").answers(0, "holdsUp", 0);
        Edge.of("is000;il010;e0+04;").answers(1, "holdsUp", 0);
        Edge.of("il000;il010;e0+04;").answers(-9, "holdsUp", 0);
        Edge.of("il000;il010;e0+02;").answers(0, "holdsUp", 0);
        // CLOTH where an ELASTIC carries it over a LINING is not fewer, for then it never is out.
        Edge.of("il010;ie020;is000;e0+05;").answers(0, "holdsUp", 0);
        // Either would bring it out: the one with fewer SECONDS. 6 to 3 and 0 by ELASTIC, or 6, 4, 2, 0.
        Edge.of("il010;ie000;ie020;e0+06;").answers(1, "holdsUp", 0);
        Edge.of("il010;iv029;e0+06;").answers(1, "holdsUp", 0);
    }

    private static void holdsUpOfSeveralTheLeast() {
        Edge.of("is010;ib030;e0+10;").answers(1, "holdsUp", 0);
        Edge.of("is040;ib020;e1+10;").answers(2, "holdsUp", 1);
        Edge.of("is010;iv037;e0+10;").answers(1, "holdsUp", 0);
        Edge.of("is010;iv038;e0+10;").answers(3, "holdsUp", 0);
        Edge.of("iv014;iv035;e0+10;").answers(3, "holdsUp", 0);
        Edge.of("iv015;iv035;e0+10;").answers(1, "holdsUp", 0);
        Edge.of("iv045;iv025;e1+10;").answers(2, "holdsUp", 1);
    }

    private static void holdsUpRefuses() {
        for (int end : NO_ENDS) {
            Edge.rich().refuses(-1, "holdsUp", end);
        }
        Edge.rich().answers(-9, "holdsUp", 1);
    }

    private static void middleCutTowardZero() {
        int[] first = {-8, -7, -6, -5, -4, -9, -10, -11, -12, 24, -40};
        int[] due = {0, 0, 1, 1, 2, 0, -1, -1, -2, 16, -16};
        for (int i = 0; i < first.length; i++) {
            String in = (first[i] < 0 ? "-" : "+") + Math.abs(first[i]) / 10 + Math.abs(first[i]) % 10;
            Edge.of("e0" + in + ";").answers(due[i], "middle");
            Edge.of("e1" + in + ";").answers(-due[i], "middle");
        }
        Edge.of("e0+24;e1-40;").answers(32, "middle");
        Edge.of("e0-40;e1+24;").answers(-32, "middle");
        Edge.of("e0+24;e1-39;").answers(31, "middle");
        Edge.of("e0-39;e1+24;").answers(-31, "middle");
        Edge.of("e0+24;e1+24;").answers(0, "middle");
        Edge.of("e0-40;e1-40;").answers(0, "middle");
    }

    private static void middleOfKnotsAndTheStitch() {
        Edge.of("s;e0-06;").answers(99, "middle");
        Edge.of("s;e0-10;").answers(99, "middle");
        Edge.of("s;e0-07;").answers(0, "middle");
        // The one that goes IN may go to 0 with its KNOT, and no deeper.
        Edge.of("k1;e0+08;").answers(8, "middle");
        Edge.of("k1;e0+09;").answers(8, "middle");
        Edge.of("k1;e0+10;").answers(99, "middle");
        Edge.of("k0;e1+08;").answers(-8, "middle");
        Edge.of("k0;e1+09;").answers(-8, "middle");
        Edge.of("k0;e1+10;").answers(99, "middle");
        Edge.of("k1;e0+24;e1+20;").answers(99, "middle");
        Edge.of("k1;e0+21;e1+20;").answers(0, "middle");
        Edge.of("k0;e1+21;e0+20;").answers(0, "middle");
        Edge.of("k0;e1+22;e0+20;").answers(99, "middle");
        // The KNOT of the one that goes OUT does not hold it.
        Edge.of("k0;e0+24;").answers(16, "middle");
        Edge.of("k1;e1+24;").answers(-16, "middle");
        Edge.rich().answers(8, "middle");
    }

    private static void cutOff() {
        String[] texts = {"e0+08;", "e0+07;", "e0+09;", "e1+08;", "e1+07;", "e0+24;e1+24;", "e0-40;e1-40;",
            "e0+24;e1-40;", "e0+24;e1-24;", "e0+24;e1-25;", "e0+24;e1-23;", "e0+00;e1+00;", "e0+00;e1-01;"};
        int[] due = {0, 1, 0, 0, 1, 0, 80, 16, 0, 1, 0, 0, 1};
        for (int i = 0; i < texts.length; i++) {
            Edge.of(texts[i]).answers(due[i], "cutOff");
        }
        Edge.rich().answers(6, "cutOff");
        Edge.of("s;k0;k1;").answers(16, "cutOff");
    }

    private static void bestPin() {
        // 8 and 5 more for the SEAM, and 10 less the PIN.
        Edge one = Edge.of("n02;is000;p50;");
        for (int pin = 1; pin <= 9; pin++) {
            one.answers(pin, "bestPin", 13 + 10 - pin);
        }
        one.answers(1, "bestPin", 23);
        one.answers(-9, "bestPin", 13);
        one.answers(-9, "bestPin", 0);
        one.answers(1, "bestPin", 999);
        // Two SEAMS: what is between two PINS is the greater PIN's.
        Edge two = Edge.of("n02;is000;ib010;p11;");
        two.answers(1, "bestPin", 36);
        two.answers(2, "bestPin", 35);
        two.answers(2, "bestPin", 34);
        two.answers(8, "bestPin", 22);
        two.answers(9, "bestPin", 21);
        two.answers(9, "bestPin", 20);
        two.answers(-9, "bestPin", 19);
        Edge.of("n02;").answers(1, "bestPin", 8);
        Edge.of("n02;").answers(-9, "bestPin", 7);
        Edge.rich().answers(6, "bestPin", 64);
        Edge.rich().answers(7, "bestPin", 63);
    }

    private static void bestPinRefuses() {
        for (int v : new int[] {-1, -2, LEAST}) {
            Edge.rich().refuses(-4, "bestPin", v);
        }
        for (int v : new int[] {1000, 1001, GREATEST}) {
            Edge.rich().refuses(-6, "bestPin", v);
        }
    }

    private static void worst() {
        String[] texts = {"n02;", "n02;iv010;", "n02;iv000;iv010;", "n02;is000;il010;", "n02;is000;il011;",
            "n02;ib000;is010;", "n12;iv110;", "n12;iv110;is050;il060;", "n12;il119;n11;", "n12;il119;n11;n12;",
            "ie050;", "iv019;is020;", "il028;il039;il049;"};
        int[] due = {0, 1, 0, 0, 1, 0, 11, 5, 0, 11, 0, 2, 3};
        for (int i = 0; i < texts.length; i++) {
            for (String pin : new String[] {"p13;", "p93;"}) {
                Edge.of(texts[i] + pin).answers(due[i], "worst");
            }
        }
        Edge.rich().answers(3, "worst");
    }
}

/** What the tests share: looking at answers, and telling a HEM letter by letter. */
final class Due {
    private static int wrong = 0;

    private Due() {
    }

    static void is(String call, long got, long want) {
        if (got != want) {
            wrong++;
            System.out.println(call + " answered " + got + ", due is " + want);
        }
    }

    static void close() {
        if (wrong != 0) {
            System.out.println(wrong + " answers are not as due");
            System.exit(1);
        }
    }

    static void letters(GoneIntoItsTunnel x, String text) {
        for (int i = 0; i < text.length(); i++) {
            x.letter(text.charAt(i));
        }
    }

    static int tell(GoneIntoItsTunnel x, String text) {
        letters(x, text);
        return x.hem();
    }

    static GoneIntoItsTunnel told(String text) {
        GoneIntoItsTunnel x = new GoneIntoItsTunnel();
        int statements = tell(x, text);
        if (statements <= 0) {
            is("hem() of " + text, statements, 1);
        }
        return x;
    }

    static void row(GoneIntoItsTunnel x, int... numbers) {
        for (int number : numbers) {
            x.row(number);
        }
    }

    static int in(GoneIntoItsTunnel x, int end) {
        return x.inIn(end, 0);
    }

    /** All that an IMAGE holds, as one text. */
    static String state(GoneIntoItsTunnel x) {
        StringBuilder text = new StringBuilder();
        int inches = x.count(0);
        text.append(inches).append(':');
        x.inches(12);
        for (int inch = 0; inch < 12; inch++) {
            text.append(x.inch(inch, 0)).append(x.inch(inch, 1)).append(' ');
        }
        x.inches(inches);
        // Which END has the KNOT can be seen by tying, and by tying back.
        int first = 1 - x.tie(0);
        int second = 1 - x.tie(1);
        x.tie(0);
        x.tie(1);
        text.append(in(x, 0)).append(' ').append(in(x, 1)).append(" knots ").append(first).append(second);
        text.append(" stitch ").append(x.count(3)).append(" pin ").append(x.count(4));
        text.append(" pull ").append(x.count(5));
        return text.toString();
    }

    static void same(String what, String got, String want) {
        if (!got.equals(want)) {
            wrong++;
            System.out.println(what + " is " + got + ", due is " + want);
        }
    }

    /** The refusals -1 .. -6 so far, as one text. */
    static String refusals(GoneIntoItsTunnel x) {
        StringBuilder text = new StringBuilder();
        for (int what = 11; what <= 16; what++) {
            text.append(x.count(what)).append(' ');
        }
        return text.toString().trim();
    }
}

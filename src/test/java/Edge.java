import java.lang.reflect.InvocationTargetException;
import java.lang.reflect.Method;
import java.util.Arrays;
import java.util.function.Supplier;

/**
 * One boundary at a time. The call is made on one of two objects that came about alike, and then both are
 * looked at from all sides: what the call must not change has to be the same on both.
 */
final class Edge {
    /** INCHES of a rich one ahead of, all else behind, IN of its ENDS. */
    static final String RICH_INCHES = "8:00 11 22 33 44 55 00 26 51 00 00 39 ";
    static final String RICH_ENDS = "5 -11";
    static final String RICH_REST = " knots 01 stitch 0 pin 6 pull 4";
    static final String RICH_IMAGE_STATE =
            "9:00 00 00 00 00 00 00 00 51 00 00 39 -20 20 knots 10 stitch 1 pin 2 pull 7";
    private static final String LETTERS_96 = "iv069;".repeat(15) + "ie078;";

    private final Supplier<GoneIntoItsTunnel> start;

    private Edge(Supplier<GoneIntoItsTunnel> start) {
        this.start = start;
    }

    /** An object that was told this HEM, and nothing else. */
    static Edge of(String hem) {
        return new Edge(() -> Due.told(hem));
    }

    static Edge fresh() {
        return new Edge(GoneIntoItsTunnel::new);
    }

    /** No part of it is as in a new object: INCHES beyond the last, KNOT, PIN, PULL, IMAGE, ROW, letters. */
    static Edge rich() {
        return new Edge(() -> richWith("iv019;e1+07;", 55, 60, 64));
    }

    static Edge richWithAllLetters() {
        return new Edge(() -> richWith(LETTERS_96, 55, 60, 64));
    }

    static Edge richWithAllOfTheRow() {
        return new Edge(() -> richWith("k0;", 55, 60, 64, 68, 73, 74, 74, 74, 74, 74, 74, 74));
    }

    private static GoneIntoItsTunnel richWith(String letters, int... row) {
        GoneIntoItsTunnel x = Due.told("n12;il119;ib081;n09;e0-20;e1+20;k0;s;p27;");
        x.image();
        Due.tell(x, "n08;is011;ie022;il033;iv044;ib055;ie076;e0+05;e1-11;k0;k1;s;p64;");
        Due.row(x, row);
        Due.letters(x, letters);
        return x;
    }

    /** The call is a REFUSAL: it answers the number, counts it once, and nothing else is other than it was. */
    void refuses(int answer, String name, int... arguments) {
        int why = answer > 1000000000 ? 1000000000 - answer : answer;
        look(answer, why, name, arguments);
    }

    /** The call asks: nothing at all is other than it was, so that asked again it answers the same. */
    void answers(int answer, String name, int... arguments) {
        look(answer, 0, name, arguments);
        GoneIntoItsTunnel x = start.get();
        call(x, name, arguments);
        Due.is(name + Arrays.toString(arguments) + " asked again", call(x, name, arguments), answer);
    }

    private void look(int answer, int why, String name, int... arguments) {
        GoneIntoItsTunnel x = start.get();
        GoneIntoItsTunnel twin = start.get();
        String call = name + Arrays.toString(arguments);
        Due.is(call, call(x, name, arguments), answer);
        for (int what = 11; what <= 16; what++) {
            int more = why == 10 - what ? 1 : 0;
            Due.is("count(" + what + ") behind " + call, x.count(what), twin.count(what) + more);
        }
        Due.same("what is there behind " + call, allSides(x), allSides(twin));
    }

    /** The call changes what is there to this, and leaves THE IMAGE, the ROW, letters and REFUSALS. */
    void becomes(int answer, String state, String name, int... arguments) {
        GoneIntoItsTunnel x = start.get();
        GoneIntoItsTunnel twin = start.get();
        String call = name + Arrays.toString(arguments);
        Due.is(call, call(x, name, arguments), answer);
        Due.same("what is there behind " + call, Due.state(x), state);
        Due.is("the ROW behind " + call, x.count(7), twin.count(7));
        Due.is("letters behind " + call, x.count(8), twin.count(8));
        Due.same("REFUSALS behind " + call, Due.refusals(x), Due.refusals(twin));
        Due.is("on() behind " + call, x.on(), twin.on());
        if (twin.count(13) == 0) {
            Due.same("all sides behind on() behind " + call, allSides(x), allSides(twin));
        }
    }

    /** The numbers of the ROW, letters and THE IMAGE can be seen only by using them up. */
    private static String allSides(GoneIntoItsTunnel x) {
        StringBuilder text = new StringBuilder(Due.state(x));
        text.append(" row ").append(x.count(7)).append(" letters ").append(x.count(8));
        text.append(" judged ").append(x.judge(0)).append(" hem ").append(x.hem()).append(' ').append(Due.state(x));
        text.append(" on ").append(x.on()).append(' ').append(Due.state(x));
        return text.toString();
    }

    private static int call(GoneIntoItsTunnel x, String name, int... arguments) {
        Class<?>[] types = new Class<?>[arguments.length];
        Object[] values = new Object[arguments.length];
        for (int i = 0; i < arguments.length; i++) {
            types[i] = int.class;
            values[i] = arguments[i];
        }
        try {
            Method method = GoneIntoItsTunnel.class.getMethod(name, types);
            return (Integer) method.invoke(x, values);
        } catch (NoSuchMethodException | IllegalAccessException | InvocationTargetException e) {
            throw new IllegalStateException(name + Arrays.toString(arguments), e);
        }
    }
}

import java.util.ArrayList;
import java.util.List;
import java.util.regex.Matcher;
import java.util.regex.Pattern;

/**
 * The document once more, written for reading only: every state is a new value, KINDS are classes that
 * have what they do not tell from the one above, and letters are read by patterns.
 */
final class Model {
    private static class Cloth {
        int moves() {
            return 2;
        }

        int seconds(int figure) {
            return 3;
        }

        int thread(int figure) {
            return 4;
        }

        int draws(int pull) {
            return pull;
        }
    }

    private static class Seam extends Cloth {
        @Override int moves() {
            return 1;
        }

        @Override int seconds(int figure) {
            return 5;
        }

        @Override int thread(int figure) {
            return 9;
        }

        @Override int draws(int pull) {
            return pull / 2;
        }
    }

    private static final class Elastic extends Cloth {
        @Override int moves() {
            return 3;
        }

        @Override int draws(int pull) {
            return super.draws(pull) + 1;
        }
    }

    private static final class Lining extends Seam {
        @Override int moves() {
            return 0;
        }

        @Override int thread(int figure) {
            return super.thread(figure) + figure;
        }
    }

    private static final class Velvet extends Cloth {
        @Override int seconds(int figure) {
            return super.seconds(figure) + figure;
        }

        @Override int thread(int figure) {
            return 6;
        }
    }

    private static final class Beaded extends Seam {
        @Override int draws(int pull) {
            return 0;
        }
    }

    private static final List<Cloth> KINDS =
            List.of(new Cloth(), new Seam(), new Elastic(), new Lining(), new Velvet(), new Beaded());

    /** Never changed once it is made; with...() answers another one. */
    private record State(List<Integer> kinds, List<Integer> figures, int n, int in0, int in1, boolean knot0,
            boolean knot1, boolean stitch, int pin, int pull) {
        static State first() {
            return new State(List.of(0, 0, 0, 0, 0, 0, 0, 0, 0, 0, 0, 0),
                    List.of(0, 0, 0, 0, 0, 0, 0, 0, 0, 0, 0, 0), 6, -8, -8, false, false, false, 3, 3);
        }

        State withInch(int inch, int kind, int figure) {
            List<Integer> k = new ArrayList<>(kinds);
            List<Integer> f = new ArrayList<>(figures);
            k.set(inch, kind);
            f.set(inch, figure);
            return new State(List.copyOf(k), List.copyOf(f), n, in0, in1, knot0, knot1, stitch, pin, pull);
        }

        State withN(int v) {
            return new State(kinds, figures, v, in0, in1, knot0, knot1, stitch, pin, pull);
        }

        State withIn(int end, int v) {
            return new State(kinds, figures, n, end == 0 ? v : in0, end == 1 ? v : in1, knot0, knot1, stitch, pin,
                    pull);
        }

        State withKnot(int end, boolean there) {
            return new State(kinds, figures, n, in0, in1, end == 0 ? there : knot0, end == 1 ? there : knot1, stitch,
                    pin, pull);
        }

        State withStitch(boolean there) {
            return new State(kinds, figures, n, in0, in1, knot0, knot1, there, pin, pull);
        }

        State withPin(int v) {
            return new State(kinds, figures, n, in0, in1, knot0, knot1, stitch, v, pull);
        }

        State withPull(int v) {
            return new State(kinds, figures, n, in0, in1, knot0, knot1, stitch, pin, v);
        }

        int in(int end) {
            return end == 0 ? in0 : in1;
        }

        boolean knot(int end) {
            return end == 0 ? knot0 : knot1;
        }

        boolean isLost(int end) {
            return in(end) >= 1;
        }

        int lostOnes() {
            int all = 0;
            for (int end = 0; end < 2; end++) {
                if (isLost(end)) {
                    all++;
                }
            }
            return all;
        }

        Cloth kind(int inch) {
            return KINDS.get(kinds.get(inch));
        }

        boolean seam(int inch) {
            return kind(inch) instanceof Seam;
        }

        int place(int end) {
            int steps = in(end) < 1 ? 0 : (in(end) - 1) / 2;
            while (steps > n - 1) {
                steps--;
            }
            return end == 0 ? steps : n - 1 - steps;
        }

        int anewSeconds() {
            int all = 0;
            for (int inch = 0; inch < n; inch++) {
                all += kind(inch).thread(figures.get(inch)) + (seam(inch) ? 10 - pin : 0);
            }
            return all;
        }

        State anew() {
            return withIn(0, -8).withIn(1, -8);
        }

        /** Half inch by half inch, as long as one more may be. */
        State pulled(int end, int far) {
            State s = this;
            for (int i = 0; i < far; i++) {
                int other = 1 - end;
                boolean may = !s.stitch && s.in(end) > -40 && s.in(other) < 24 && !(s.knot(other) && s.in(other) >= 0);
                if (!may) {
                    return s;
                }
                s = s.withIn(end, s.in(end) - 1).withIn(other, s.in(other) + 1);
            }
            return s;
        }

        State washed() {
            int deeper = in1 > in0 ? 1 : 0;
            return pulled(1 - deeper, kind(place(deeper)).draws(pull));
        }

        State washed(int times) {
            State s = this;
            for (int i = 0; i < times; i++) {
                s = s.washed();
            }
            return s;
        }

        State bunched(int end) {
            return withIn(end, Math.max(0, in(end) - kind(place(end)).moves()));
        }

        /** Which INCH each BUNCH is at; null: it never is out. */
        List<Integer> bunches(int end) {
            List<Integer> all = new ArrayList<>();
            State s = this;
            while (s.isLost(end)) {
                State then = s.bunched(end);
                if (then.equals(s)) {
                    return null;
                }
                all.add(s.place(end));
                s = then;
            }
            return all;
        }

        /** Long.MAX_VALUE: never. */
        long bunchSeconds(int end) {
            List<Integer> all = bunches(end);
            if (all == null) {
                return Long.MAX_VALUE;
            }
            long seconds = 0;
            for (int inch : all) {
                seconds += kind(inch).seconds(figures.get(inch));
            }
            return seconds;
        }

        long allSeconds() {
            long a = bunchSeconds(0);
            long b = bunchSeconds(1);
            return a == Long.MAX_VALUE || b == Long.MAX_VALUE ? Long.MAX_VALUE : a + b;
        }
    }

    private State s = State.first();
    private State kept = null;
    private StringBuilder text = new StringBuilder();
    private List<Integer> numbers = new ArrayList<>();
    private final int[] refused = new int[7];

    private int no(int why) {
        refused[-why]++;
        return why;
    }

    private int noAsTold(int why) {
        return 1000000000 - no(why);
    }

    private static int range(int v, int least, int most) {
        return v < least ? -4 : v > most ? -6 : 0;
    }

    int letter(int c) {
        if (range(c, 0, 255) != 0) {
            return no(range(c, 0, 255));
        }
        if (text.length() == 96) {
            return no(-6);
        }
        text.append((char) c);
        return text.length();
    }

    private static final Pattern STATEMENT = Pattern.compile(
            "n\\d\\d;|i[cselvb]\\d\\d\\d;|e\\d[+-]\\d\\d;|k\\d;|s;|p\\d\\d;|w\\d\\d;");

    /** Whether some HEM begins so: the pattern met the end of the text, or is met by all of it. */
    private static boolean mayGoOn(String head) {
        int at = 0;
        while (at < head.length()) {
            Matcher m = STATEMENT.matcher(head).region(at, head.length());
            if (m.lookingAt()) {
                at = m.end();
            } else {
                return m.hitEnd();
            }
        }
        return true;
    }

    int hem() {
        String all = text.toString();
        text = new StringBuilder();
        for (int length = 1; length <= all.length(); length++) {
            if (!mayGoOn(all.substring(0, length))) {
                return -1000 - (length - 1);
            }
        }
        if (!all.endsWith(";")) {
            return -1000 - all.length();
        }
        State then = s;
        int at = 0;
        int statements = 0;
        for (String part : all.split(";")) {
            then = said(then, part);
            if (then == null) {
                return -2000 - at;
            }
            at += part.length() + 1;
            statements++;
        }
        s = then;
        return statements;
    }

    private static State said(State s, String part) {
        char first = part.charAt(0);
        String rest = part.substring(1);
        if (first == 's') {
            return s.withStitch(!s.stitch);
        }
        if (first == 'i') {
            int inch = Integer.parseInt(rest.substring(1, 3));
            return inch >= s.n ? null : s.withInch(inch, "cselvb".indexOf(rest.charAt(0)), rest.charAt(3) - '0');
        }
        if (first == 'e') {
            int in = Integer.parseInt(rest.substring(1));
            return rest.charAt(0) > '1' || in < -40 || in > 24 ? null : s.withIn(rest.charAt(0) - '0', in);
        }
        int number = Integer.parseInt(rest);
        return switch (first) {
            case 'n' -> number < 2 || number > 12 ? null : s.withN(number);
            case 'k' -> number > 1 ? null : s.withKnot(number, !s.knot(number));
            case 'p' -> number < 10 ? null : s.withPin(number / 10).withPull(number % 10);
            default -> number < 1 || number > 40 ? null : s.washed(number);
        };
    }

    int inch(int inch, int what) {
        if (inch < 0 || inch >= s.n) {
            return no(-1);
        }
        int figure = s.figures.get(inch);
        return switch (what) {
            case 0 -> s.kinds.get(inch);
            case 1 -> figure;
            case 2 -> s.kind(inch).moves();
            case 3 -> s.kind(inch).seconds(figure);
            case 4 -> s.kind(inch).thread(figure);
            case 5 -> s.kind(inch).draws(s.pull);
            default -> no(-2);
        };
    }

    int turn(int inch, int kind, int figure) {
        if (inch < 0 || inch >= s.n) {
            return no(-1);
        }
        if (kind < 0 || kind > 5) {
            return no(-2);
        }
        if (range(figure, 0, 9) != 0) {
            return no(range(figure, 0, 9));
        }
        int had = 10 * s.kinds.get(inch) + s.figures.get(inch);
        s = s.withInch(inch, kind, figure);
        return had;
    }

    int inches(int n) {
        if (range(n, 2, 12) != 0) {
            return no(range(n, 2, 12));
        }
        int had = s.n;
        s = s.withN(n);
        return had;
    }

    int end(int end, int v) {
        if (end < 0 || end > 1) {
            return noAsTold(-1);
        }
        if (range(v, -40, 24) != 0) {
            return noAsTold(range(v, -40, 24));
        }
        int had = s.in(end);
        s = s.withIn(end, v);
        return had;
    }

    int tie(int end) {
        if (end < 0 || end > 1) {
            return no(-1);
        }
        s = s.withKnot(end, !s.knot(end));
        return s.knot(end) ? 1 : 0;
    }

    int sew() {
        s = s.withStitch(!s.stitch);
        return s.stitch ? 1 : 0;
    }

    int set(int what, int v) {
        if (what < 0 || what > 1) {
            return no(-2);
        }
        if (range(v, 1 - what, 9) != 0) {
            return no(range(v, 1 - what, 9));
        }
        int had = what == 0 ? s.pin : s.pull;
        s = what == 0 ? s.withPin(v) : s.withPull(v);
        return had;
    }

    int pull(int end, int n) {
        if (end < 0 || end > 1) {
            return noAsTold(-1);
        }
        if (range(n, 1, 40) != 0) {
            return noAsTold(range(n, 1, 40));
        }
        State then = s.pulled(end, n);
        if (then.equals(s)) {
            return noAsTold(-3);
        }
        s = then;
        return s.in(end);
    }

    int bunch(int end) {
        if (end < 0 || end > 1) {
            return noAsTold(-1);
        }
        if (!s.isLost(end)) {
            return noAsTold(-3);
        }
        s = s.bunched(end);
        return s.in(end);
    }

    int anew() {
        s = s.anew();
        return s.anewSeconds();
    }

    int wash(int n) {
        if (range(n, 1, 40) != 0) {
            return no(range(n, 1, 40));
        }
        s = s.washed(n);
        return s.lostOnes();
    }

    int of(int end, int what) {
        if (end < 0 || end > 1) {
            return no(-1);
        }
        int place = s.place(end);
        return switch (what) {
            case 0 -> place;
            case 1 -> s.isLost(end) ? 1 : 0;
            case 2 -> s.kind(place).moves();
            case 3 -> s.kind(place).draws(s.pull);
            default -> no(-2);
        };
    }

    int out(int end, int what) {
        if (end < 0 || end > 1) {
            return no(-1);
        }
        if (what < 0 || what > 2) {
            return no(-2);
        }
        List<Integer> all = s.bunches(end);
        if (all == null) {
            return -9;
        }
        if (what < 2) {
            return what == 0 ? all.size() : (int) s.bunchSeconds(end);
        }
        int best = -9;
        int most = 0;
        for (int steps = 0; steps < s.n; steps++) {
            int inch = end == 0 ? steps : s.n - 1 - steps;
            int cost = 0;
            for (int at : all) {
                cost += at == inch ? s.kind(at).seconds(s.figures.get(at)) : 0;
            }
            if (cost > most) {
                most = cost;
                best = inch;
            }
        }
        return best;
    }

    int soonest() {
        if (s.lostOnes() == 0) {
            return -9;
        }
        long a = s.isLost(0) ? s.bunchSeconds(0) : Long.MAX_VALUE;
        long b = s.isLost(1) ? s.bunchSeconds(1) : Long.MAX_VALUE;
        if (a == Long.MAX_VALUE && b == Long.MAX_VALUE) {
            return 9;
        }
        return b < a ? 1 : 0;
    }

    int better(int what) {
        return switch (what) {
            case 0 -> s.anewSeconds();
            case 1 -> s.anewSeconds() < s.allSeconds() ? 1 : 0;
            default -> no(-2);
        };
    }

    int inIn(int end, int n) {
        if (end < 0 || end > 1) {
            return noAsTold(-1);
        }
        if (range(n, 0, 200) != 0) {
            return noAsTold(range(n, 0, 200));
        }
        return s.washed(n).in(end);
    }

    int lost(int what) {
        if (what < 0 || what > 1) {
            return no(-2);
        }
        State then = s;
        for (int n = 0; n <= 200; n++) {
            if (then.isLost(0) || then.isLost(1)) {
                return what == 0 ? n : !then.isLost(1) ? 0 : !then.isLost(0) ? 1 : 2;
            }
            then = then.washed();
        }
        return -9;
    }

    int still() {
        State then = s;
        for (int n = 0; n <= 200; n++) {
            State next = then.washed();
            if (next.equals(then)) {
                return n;
            }
            then = next;
        }
        return -9;
    }

    int keep(int v) {
        if (range(v, 0, 999) != 0) {
            return no(range(v, 0, 999));
        }
        State then = s;
        for (int n = 0; n <= 200; n++) {
            if (then.allSeconds() > v) {
                return n;
            }
            then = then.washed();
        }
        return -9;
    }

    int deep(int end, int v) {
        if (end < 0 || end > 1) {
            return no(-1);
        }
        if (range(v, 0, 999) != 0) {
            return no(range(v, 0, 999));
        }
        int greatest = -9;
        for (int d = 1; d <= 24; d++) {
            if (s.withIn(end, d).bunchSeconds(end) <= v) {
                greatest = d;
            }
        }
        return greatest;
    }

    /** SECONDS, and how many times one has to mend. */
    private static int[] mended(State from, int n) {
        State s = from;
        int seconds = 0;
        int times = 0;
        for (int i = 0; i < n; i++) {
            s = s.washed();
            for (int end = 0; end < 2; end++) {
                if (s.isLost(end)) {
                    times++;
                    long bunching = s.bunchSeconds(end);
                    boolean anew = s.anewSeconds() < bunching;
                    seconds += anew ? s.anewSeconds() : (int) bunching;
                    s = anew ? s.anew() : s.withIn(end, 0);
                }
            }
        }
        return new int[] {seconds, times};
    }

    int stops(int n, int what) {
        if (range(n, 0, 200) != 0) {
            return no(range(n, 0, 200));
        }
        if (what < 0 || what > 1) {
            return no(-2);
        }
        int[] costs = {
            mended(s, n)[0],
            20 + mended(s.withKnot(0, true), n)[0],
            20 + mended(s.withKnot(1, true), n)[0],
            40 + mended(s.withKnot(0, true).withKnot(1, true), n)[0],
            50 + mended(s.withStitch(true), n)[0]};
        int best = 4;
        for (int stop = 3; stop >= 0; stop--) {
            best = costs[stop] <= costs[best] ? stop : best;
        }
        return what == 0 ? best : costs[best];
    }

    int care(int n) {
        return range(n, 0, 200) != 0 ? no(range(n, 0, 200)) : mended(s, n)[1];
    }

    int holdsUp(int end) {
        if (end < 0 || end > 1) {
            return no(-1);
        }
        long fewest = s.bunchSeconds(end);
        int best = -9;
        for (int inch = 0; inch < s.n; inch++) {
            long then = s.withInch(inch, 0, s.figures.get(inch)).bunchSeconds(end);
            if (then < fewest) {
                fewest = then;
                best = inch;
            }
        }
        return best;
    }

    int middle() {
        int half = (s.in0 - s.in1) / 2;
        State then = half >= 0 ? s.pulled(0, half) : s.pulled(1, -half);
        return Math.abs(then.in0 - then.in1) <= 1 ? half : 99;
    }

    int cutOff() {
        int most = 0;
        while (s.in0 + s.in1 + most + 1 <= 0) {
            most++;
        }
        return most;
    }

    int bestPin(int v) {
        if (range(v, 0, 999) != 0) {
            return no(range(v, 0, 999));
        }
        int best = -9;
        for (int pin = 9; pin >= 1; pin--) {
            best = s.withPin(pin).anewSeconds() <= v ? pin : best;
        }
        return best;
    }

    int worst() {
        int best = 0;
        for (int inch = s.n - 1; inch >= 0; inch--) {
            int cost = s.kind(inch).thread(s.figures.get(inch));
            best = cost >= s.kind(best).thread(s.figures.get(best)) ? inch : best;
        }
        return best;
    }

    private int firstOff(State from, int end) {
        for (int at = 0; at < numbers.size(); at++) {
            if (numbers.get(at) != from.washed(at).in(end) + 50) {
                return at;
            }
        }
        return -9;
    }

    int which(int inch, int what) {
        if (inch < 0 || inch >= s.n) {
            return no(-1);
        }
        if (what < 0 || what > 1) {
            return no(-2);
        }
        int bits = 0;
        for (int i = 0; i < (what == 0 ? 6 : 10); i++) {
            State then = what == 0 ? s.withInch(inch, i, s.figures.get(inch)) : s.withPull(i);
            bits += firstOff(then, 0) == -9 ? 1 << i : 0;
        }
        return bits;
    }

    int row(int v) {
        if (range(v, 0, 99) != 0) {
            return no(range(v, 0, 99));
        }
        if (numbers.size() == 12) {
            return no(-6);
        }
        numbers.add(v);
        return numbers.size();
    }

    int judge(int end) {
        if (end < 0 || end > 1) {
            return no(-1);
        }
        int first = firstOff(s, end);
        numbers = new ArrayList<>();
        return first;
    }

    int lots(int n, int z, int what) {
        if (range(n, 1, 20) != 0) {
            return no(range(n, 1, 20));
        }
        if (what < 0 || what > 1) {
            return no(-2);
        }
        int hems = 0;
        int seconds = 0;
        long seed = z & 0xFFFFFFFFL;
        for (int i = 0; i < n; i++) {
            seed = (seed * 1664525L + 1013904223L) & 0xFFFFFFFFL;
            State then = s.withPull((int) ((seed % 0x80000000L) / 256 % 10)).washed(10);
            hems += then.lostOnes() > 0 ? 1 : 0;
            for (int end = 0; end < 2; end++) {
                seconds += then.bunchSeconds(end) == Long.MAX_VALUE ? 100 : (int) then.bunchSeconds(end);
            }
        }
        return what == 0 ? hems : seconds;
    }

    int image() {
        kept = s;
        return s.n;
    }

    int on() {
        if (kept == null) {
            return no(-3);
        }
        s = kept;
        return s.n;
    }

    int count(int what) {
        if (what >= 11 && what <= 16) {
            return refused[what - 10];
        }
        int seams = 0;
        for (int inch = 0; inch < s.n; inch++) {
            seams += s.seam(inch) ? 1 : 0;
        }
        return switch (what) {
            case 0 -> s.n;
            case 1 -> s.lostOnes();
            case 2 -> (s.knot0 ? 1 : 0) + (s.knot1 ? 1 : 0);
            case 3 -> s.stitch ? 1 : 0;
            case 4 -> s.pin;
            case 5 -> s.pull;
            case 6 -> seams;
            case 7 -> numbers.size();
            case 8 -> text.length();
            default -> -9;
        };
    }
}

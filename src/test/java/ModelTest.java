import java.util.Random;

/** Runs of calls by lot: the class and the model of it must answer alike, call for call. */
public final class ModelTest {
    private static final int RUNS = 3000;
    private static final int STEPS = 200;
    private static final String[] NAMES = {"letters", "hem", "inch", "turn", "inches", "end", "tie", "sew", "set",
        "pull", "bunch", "anew", "wash", "of", "out", "soonest", "better", "inIn", "lost", "still", "keep", "deep",
        "stops", "care", "holdsUp", "middle", "cutOff", "bestPin", "worst", "which", "row", "judge", "lots", "image",
        "on", "count"};

    private final Random lot;
    private final GoneIntoItsTunnel x = new GoneIntoItsTunnel();
    private final Model m = new Model();
    private int calls = 0;

    private ModelTest(long seed) {
        lot = new Random(seed);
    }

    public static void main(String[] args) {
        for (int run = 0; run < RUNS; run++) {
            new ModelTest(run).go(run);
        }
        Due.close();
    }

    /** 512 calls at most: what comes later is not promised. */
    private void go(int run) {
        for (int step = 0; step < STEPS && calls < 380; step++) {
            step("run " + run + " step " + step + " ");
        }
    }

    private void same(String call, int got, int want) {
        calls++;
        Due.is(call, got, want);
    }

    /** Mostly from the range, its edges often, now and then just outside. */
    private int from(int least, int most) {
        switch (lot.nextInt(12)) {
            case 0: return least;
            case 1: return most;
            case 2: return lot.nextInt(4) == 0 ? least - 1 : least;
            case 3: return lot.nextInt(4) == 0 ? most + 1 : most;
            default: return least + lot.nextInt(most - least + 1);
        }
    }

    private void letters(String run) {
        String text = lot.nextInt(3) == 0 ? spoilt(text()) : text();
        for (int i = 0; i < text.length(); i++) {
            same(run + "letter", x.letter(text.charAt(i)), m.letter(text.charAt(i)));
        }
        same(run + "hem of " + text, x.hem(), m.hem());
    }

    private String text() {
        StringBuilder text = new StringBuilder();
        int statements = 1 + lot.nextInt(6);
        for (int i = 0; i < statements; i++) {
            text.append(statement()).append(';');
        }
        return text.toString();
    }

    private String statement() {
        switch (lot.nextInt(9)) {
            case 0: return String.format("n%02d", from(2, 12));
            case 1: return "k" + lot.nextInt(lot.nextInt(4) == 0 ? 3 : 2);
            case 2: return lot.nextInt(3) == 0 ? "s" : "k1";
            case 3: return "p" + (lot.nextInt(8) == 0 ? 0 : 1 + lot.nextInt(9)) + lot.nextInt(10);
            case 4: return String.format("w%02d", lot.nextInt(6) == 0 ? from(1, 40) : 1 + lot.nextInt(3));
            case 5:
            case 6: return String.format("e%d%+03d", lot.nextInt(2), from(-40, 24));
            default: return String.format("i%c%02d%d", "cselvb".charAt(lot.nextInt(6)), lot.nextInt(7),
                    lot.nextInt(10));
        }
    }

    private String spoilt(String text) {
        int at = lot.nextInt(text.length());
        String signs = "nikespw;+-0123456789cselvb! ";
        char sign = signs.charAt(lot.nextInt(signs.length()));
        switch (lot.nextInt(3)) {
            case 0: return text.substring(0, at);
            case 1: return text.substring(0, at) + sign + text.substring(at + 1);
            default: return text.substring(0, at) + sign + text.substring(at);
        }
    }

    private void step(String run) {
        String name = NAMES[lot.nextInt(NAMES.length)];
        int end = from(0, 1);
        int what = from(0, 1);
        int inch = from(0, 5);
        String call = run + name;
        switch (name) {
            case "letters": letters(run); break;
            case "hem": same(call, x.hem(), m.hem()); break;
            case "inch": { int w = from(0, 5); same(call, x.inch(inch, w), m.inch(inch, w)); break; }
            case "turn": { int k = from(0, 5), f = from(0, 9); same(call, x.turn(inch, k, f), m.turn(inch, k, f));
                break; }
            case "inches": { int n = from(2, 12); same(call, x.inches(n), m.inches(n)); break; }
            case "end": { int v = from(-40, 24); same(call, x.end(end, v), m.end(end, v)); break; }
            case "tie": same(call, x.tie(end), m.tie(end)); break;
            case "sew": same(call, x.sew(), m.sew()); break;
            case "set": { int v = from(1 - what, 9); same(call, x.set(what, v), m.set(what, v)); break; }
            case "pull": { int n = from(1, 40); same(call, x.pull(end, n), m.pull(end, n)); break; }
            case "bunch": same(call, x.bunch(end), m.bunch(end)); break;
            case "anew": same(call, x.anew(), m.anew()); break;
            case "wash": { int n = lot.nextInt(3) == 0 ? from(1, 40) : 1; same(call, x.wash(n), m.wash(n)); break; }
            default: ask(name, call, end, what, inch);
        }
    }

    private void ask(String name, String call, int end, int what, int inch) {
        int n = from(0, 200);
        int v = lot.nextInt(3) == 0 ? from(0, 999) : from(0, 120);
        switch (name) {
            case "of": { int w = from(0, 3); same(call, x.of(end, w), m.of(end, w)); break; }
            case "out": { int w = from(0, 2); same(call, x.out(end, w), m.out(end, w)); break; }
            case "soonest": same(call, x.soonest(), m.soonest()); break;
            case "better": same(call, x.better(what), m.better(what)); break;
            case "inIn": same(call, x.inIn(end, n), m.inIn(end, n)); break;
            case "lost": same(call, x.lost(what), m.lost(what)); break;
            case "still": same(call, x.still(), m.still()); break;
            case "keep": same(call, x.keep(v), m.keep(v)); break;
            case "deep": same(call, x.deep(end, v), m.deep(end, v)); break;
            case "stops": same(call, x.stops(n, what), m.stops(n, what)); break;
            case "care": same(call, x.care(n), m.care(n)); break;
            case "holdsUp": same(call, x.holdsUp(end), m.holdsUp(end)); break;
            case "middle": same(call, x.middle(), m.middle()); break;
            case "cutOff": same(call, x.cutOff(), m.cutOff()); break;
            case "bestPin": same(call, x.bestPin(v), m.bestPin(v)); break;
            case "worst": same(call, x.worst(), m.worst()); break;
            case "which": same(call, x.which(inch, what), m.which(inch, what)); break;
            case "row": row(call, end); break;
            case "judge": same(call, x.judge(end), m.judge(end)); break;
            case "lots": { int z = lot.nextInt(), h = from(1, 20); same(call, x.lots(h, z, what), m.lots(h, z, what));
                break; }
            case "image": same(call, x.image(), m.image()); break;
            case "on": same(call, x.on(), m.on()); break;
            default: { int w = from(0, 16); same(call, x.count(w), m.count(w)); }
        }
    }

    /** Numbers that are mostly so, for a ROW by lot is hardly ever so. */
    private void row(String call, int end) {
        int most = lot.nextInt(5);
        for (int at = 0; at <= most; at++) {
            int number = lot.nextInt(8) == 0 ? from(0, 99) : m.inIn(0, at) + 50;
            x.inIn(0, at);
            calls++;
            same(call, x.row(number), m.row(number));
        }
        if (lot.nextInt(2) == 0) {
            int inch = lot.nextInt(2) == 0 ? x.of(0, 0) : x.of(1, 0);
            calls++;
            same(call + " which", x.which(inch, 0), m.which(inch, 0));
            same(call + " which", x.which(inch, 1), m.which(inch, 1));
            same(call + " judge", x.judge(end), m.judge(end));
        }
    }
}

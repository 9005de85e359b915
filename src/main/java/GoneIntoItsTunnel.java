/**
 * A hem with a cord in its tunnel, as ../shared/DOC.md promises it. Words in capitals, here and in
 * the comments, are the document's terms.
 */
public final class GoneIntoItsTunnel {
    private static final int NOBODY = -1;
    private static final int OTHER = -2;
    private static final int STATE = -3;
    private static final int BELOW = -4;
    private static final int ROOM = -6;
    private static final int FINE = 0;
    private static final int NONE = -9;
    private static final int TOLD_FROM = 1000000000;

    private static final int LEAST_INCHES = 2;
    private static final int MOST_INCHES = 12;
    private static final int FARTHEST_OUT = -40;
    private static final int DEEPEST = 24;
    private static final int THREADED = -8;
    private static final int DIGIT = 9;
    private static final int MOST_PULLED = 40;
    private static final int MOST_WASHES = 40;
    private static final int MOST_IN_MIND = 200;
    private static final int MOST_SECONDS = 999;

    private static final int NONE_CAN = 9;
    private static final int BOTH_ENDS = 2;
    private static final int NOT_SO_FAR = 99;
    private static final int KNOT_PRICE = 20;
    private static final int STITCH_PRICE = 50;
    private static final int STOPS_TO_CHOOSE = 5;
    private static final int MOST_LOTS = 20;
    private static final int LOT_WASHES = 10;
    private static final int LOT_NEVER = 100;
    private static final int ALL_BUT_THE_SIGN = 0x7fffffff;

    private final Hem now;
    private final Hem mind;
    private final Hem taken;
    private boolean anyTaken;
    private final Way way;
    private final Mending mending;
    private final Letters letters;
    private final Row told;
    private final int[] refusals;

    public GoneIntoItsTunnel() {
        now = new Hem();
        mind = new Hem();
        taken = new Hem();
        anyTaken = false;
        way = new Way();
        mending = new Mending();
        letters = new Letters();
        told = new Row();
        refusals = new int[1 - ROOM];
    }

    public int letter(int c) {
        int bad = outside(c, 0, Letters.HIGHEST);
        if (bad != FINE) {
            return refuse(bad);
        }
        if (letters.isFull()) {
            return refuse(ROOM);
        }
        letters.add(c);
        return letters.size;
    }

    public int hem() {
        int fault = letters.firstUnfit();
        int answer = fault == NONE ? statementsCome() : -1000 - fault;
        letters.clear();
        return answer;
    }

    public int inch(int inch, int what) {
        if (!now.hasInch(inch)) {
            return refuse(NOBODY);
        }
        switch (what) {
            case 0: return now.kindAt(inch);
            case 1: return now.figureAt(inch);
            case 2: return now.bunchMove(inch);
            case 3: return now.bunchSeconds(inch);
            case 4: return now.threadSeconds(inch);
            case 5: return now.washDraw(inch);
            default: return refuse(OTHER);
        }
    }

    public int turn(int inch, int kind, int figure) {
        if (!now.hasInch(inch)) {
            return refuse(NOBODY);
        }
        if (kind < 0 || kind >= Kind.HOW_MANY) {
            return refuse(OTHER);
        }
        int bad = outside(figure, 0, DIGIT);
        if (bad != FINE) {
            return refuse(bad);
        }
        int before = 10 * now.kindAt(inch) + now.figureAt(inch);
        now.make(inch, kind, figure);
        return before;
    }

    public int inches(int n) {
        int bad = outside(n, LEAST_INCHES, MOST_INCHES);
        if (bad != FINE) {
            return refuse(bad);
        }
        int before = now.length;
        now.length = n;
        return before;
    }

    public int end(int end, int v) {
        if (!isEnd(end)) {
            return refuseAsTold(NOBODY);
        }
        int bad = outside(v, FARTHEST_OUT, DEEPEST);
        if (bad != FINE) {
            return refuseAsTold(bad);
        }
        int before = now.depth(end);
        now.place(end, v);
        return before;
    }

    public int tie(int end) {
        if (!isEnd(end)) {
            return refuse(NOBODY);
        }
        now.knot(end, !now.isKnotted(end));
        return now.isKnotted(end) ? 1 : 0;
    }

    public int sew() {
        now.sewn = !now.sewn;
        return now.sewn ? 1 : 0;
    }

    public int set(int what, int v) {
        if (what != 0 && what != 1) {
            return refuse(OTHER);
        }
        int bad = outside(v, what == 0 ? 1 : 0, DIGIT);
        if (bad != FINE) {
            return refuse(bad);
        }
        int before = what == 0 ? now.pin : now.strength;
        if (what == 0) {
            now.pin = v;
        } else {
            now.strength = v;
        }
        return before;
    }

    public int pull(int end, int n) {
        if (!isEnd(end)) {
            return refuseAsTold(NOBODY);
        }
        int bad = outside(n, 1, MOST_PULLED);
        if (bad != FINE) {
            return refuseAsTold(bad);
        }
        if (now.draw(end, n) == 0) {
            return refuseAsTold(STATE);
        }
        return now.depth(end);
    }

    public int bunch(int end) {
        if (!isEnd(end)) {
            return refuseAsTold(NOBODY);
        }
        if (!now.isLost(end)) {
            return refuseAsTold(STATE);
        }
        int there = now.inchAt(end, now.depth(end));
        now.place(end, Math.max(0, now.depth(end) - now.bunchMove(there)));
        return now.depth(end);
    }

    public int anew() {
        now.threadAnew();
        return now.secondsAnew(now.pin);
    }

    public int wash(int n) {
        int bad = outside(n, 1, MOST_WASHES);
        if (bad != FINE) {
            return refuse(bad);
        }
        now.washTimes(n);
        return now.lostEnds();
    }

    public int of(int end, int what) {
        if (!isEnd(end)) {
            return refuse(NOBODY);
        }
        int there = now.inchAt(end, now.depth(end));
        switch (what) {
            case 0: return there;
            case 1: return now.isLost(end) ? 1 : 0;
            case 2: return now.bunchMove(there);
            case 3: return now.washDraw(there);
            default: return refuse(OTHER);
        }
    }

    public int out(int end, int what) {
        if (!isEnd(end)) {
            return refuse(NOBODY);
        }
        way.measure(now, end, now.depth(end));
        switch (what) {
            case 0: return way.bunches;
            case 1: return way.seconds;
            case 2: return way.dearest;
            default: return refuse(OTHER);
        }
    }

    public int soonest() {
        if (now.lostEnds() == 0) {
            return NONE;
        }
        int first = secondsIfLost(0);
        int second = secondsIfLost(1);
        if (first == NONE && second == NONE) {
            return NONE_CAN;
        }
        if (first == NONE) {
            return 1;
        }
        return second != NONE && second < first ? 1 : 0;
    }

    public int better(int what) {
        if (what != 0 && what != 1) {
            return refuse(OTHER);
        }
        int anew = now.secondsAnew(now.pin);
        if (what == 0) {
            return anew;
        }
        int bunching = way.secondsOfAll(now);
        return bunching == NONE || anew < bunching ? 1 : 0;
    }

    public int inIn(int end, int n) {
        if (!isEnd(end)) {
            return refuseAsTold(NOBODY);
        }
        int bad = outside(n, 0, MOST_IN_MIND);
        if (bad != FINE) {
            return refuseAsTold(bad);
        }
        mind.copyFrom(now);
        mind.washTimes(n);
        return mind.depth(end);
    }

    public int lost(int what) {
        if (what != 0 && what != 1) {
            return refuse(OTHER);
        }
        int washes = washesTillLost();
        if (what == 0 || washes == NONE) {
            return washes;
        }
        if (mind.lostEnds() == 2) {
            return BOTH_ENDS;
        }
        return mind.isLost(0) ? 0 : 1;
    }

    public int still() {
        mind.copyFrom(now);
        for (int washes = 0; washes <= MOST_IN_MIND; washes++) {
            if (mind.washOnce() == 0) {
                return washes;
            }
        }
        return NONE;
    }

    public int keep(int v) {
        int bad = outside(v, 0, MOST_SECONDS);
        if (bad != FINE) {
            return refuse(bad);
        }
        mind.copyFrom(now);
        for (int washes = 0; washes <= MOST_IN_MIND; washes++) {
            int bunching = way.secondsOfAll(mind);
            if (bunching == NONE || bunching > v) {
                return washes;
            }
            mind.washOnce();
        }
        return NONE;
    }

    public int deep(int end, int v) {
        if (!isEnd(end)) {
            return refuse(NOBODY);
        }
        int bad = outside(v, 0, MOST_SECONDS);
        if (bad != FINE) {
            return refuse(bad);
        }
        for (int depth = DEEPEST; depth >= 1; depth--) {
            way.measure(now, end, depth);
            if (way.isAWay() && way.seconds <= v) {
                return depth;
            }
        }
        return NONE;
    }

    public int stops(int n, int what) {
        int bad = outside(n, 0, MOST_IN_MIND);
        if (bad != FINE) {
            return refuse(bad);
        }
        if (what != 0 && what != 1) {
            return refuse(OTHER);
        }
        int best = 0;
        int fewest = secondsWithStop(0, n);
        for (int stop = 1; stop < STOPS_TO_CHOOSE; stop++) {
            int seconds = secondsWithStop(stop, n);
            if (seconds < fewest) {
                best = stop;
                fewest = seconds;
            }
        }
        return what == 0 ? best : fewest;
    }

    public int care(int n) {
        int bad = outside(n, 0, MOST_IN_MIND);
        if (bad != FINE) {
            return refuse(bad);
        }
        mind.copyFrom(now);
        mending.goOn(mind, way, n);
        return mending.times;
    }

    public int holdsUp(int end) {
        if (!isEnd(end)) {
            return refuse(NOBODY);
        }
        way.measure(now, end, now.depth(end));
        int best = NONE;
        int fewest = way.rank();
        for (int inch = 0; inch < now.length; inch++) {
            int rank = rankWithCloth(inch, end);
            if (rank < fewest) {
                best = inch;
                fewest = rank;
            }
        }
        return best;
    }

    public int middle() {
        int half = (now.depth(0) - now.depth(1)) / 2;
        int end = half < 0 ? 1 : 0;
        int far = Math.abs(half);
        return now.canDraw(end, far) < far ? NOT_SO_FAR : half;
    }

    public int cutOff() {
        return Math.max(0, -(now.depth(0) + now.depth(1)));
    }

    public int bestPin(int v) {
        int bad = outside(v, 0, MOST_SECONDS);
        if (bad != FINE) {
            return refuse(bad);
        }
        for (int pin = 1; pin <= DIGIT; pin++) {
            if (now.secondsAnew(pin) <= v) {
                return pin;
            }
        }
        return NONE;
    }

    public int worst() {
        int worst = 0;
        for (int inch = 1; inch < now.length; inch++) {
            if (now.secondsAnewOf(inch, now.pin) > now.secondsAnewOf(worst, now.pin)) {
                worst = inch;
            }
        }
        return worst;
    }

    public int which(int inch, int what) {
        if (!now.hasInch(inch)) {
            return refuse(NOBODY);
        }
        if (what != 0 && what != 1) {
            return refuse(OTHER);
        }
        return what == 0 ? kindsByRow(inch) : strengthsByRow();
    }

    public int row(int v) {
        int bad = outside(v, 0, Row.HIGHEST);
        if (bad != FINE) {
            return refuse(bad);
        }
        if (told.isFull()) {
            return refuse(ROOM);
        }
        told.add(v);
        return told.size;
    }

    public int judge(int end) {
        if (!isEnd(end)) {
            return refuse(NOBODY);
        }
        mind.copyFrom(now);
        int first = told.firstNotSo(mind, end);
        told.clear();
        return first;
    }

    public int lots(int n, int z, int what) {
        int bad = outside(n, 1, MOST_LOTS);
        if (bad != FINE) {
            return refuse(bad);
        }
        if (what != 0 && what != 1) {
            return refuse(OTHER);
        }
        int seed = z;
        int hems = 0;
        int seconds = 0;
        for (int lot = 0; lot < n; lot++) {
            seed = seed * 1664525 + 1013904223;
            mind.copyFrom(now);
            mind.strength = (seed & ALL_BUT_THE_SIGN) / 256 % (DIGIT + 1);
            mind.washTimes(LOT_WASHES);
            hems += mind.lostEnds() > 0 ? 1 : 0;
            seconds += lotSeconds(0) + lotSeconds(1);
        }
        return what == 0 ? hems : seconds;
    }

    public int image() {
        taken.copyFrom(now);
        anyTaken = true;
        return now.length;
    }

    public int on() {
        if (!anyTaken) {
            return refuse(STATE);
        }
        now.copyFrom(taken);
        return now.length;
    }

    public int count(int what) {
        switch (what) {
            case 0: return now.length;
            case 1: return now.lostEnds();
            case 2: return (now.isKnotted(0) ? 1 : 0) + (now.isKnotted(1) ? 1 : 0);
            case 3: return now.sewn ? 1 : 0;
            case 4: return now.pin;
            case 5: return now.strength;
            case 6: return now.seams();
            case 7: return told.size;
            case 8: return letters.size;
            default: return refusalsAt(what - 10);
        }
    }

    private static boolean isEnd(int end) {
        return end == 0 || end == 1;
    }

    private static int outside(int v, int least, int greatest) {
        if (v < least) {
            return BELOW;
        }
        return v > greatest ? ROOM : FINE;
    }

    private int refuse(int why) {
        int at = -why;
        if (at >= 0 && at < refusals.length) {
            refusals[at]++;
        }
        return why;
    }

    /** For the calls whose answers may well be below 0 of their own. */
    private int refuseAsTold(int why) {
        return TOLD_FROM - refuse(why);
    }

    private int refusalsAt(int at) {
        return at >= 1 && at < refusals.length ? refusals[at] : NONE;
    }

    private int statementsCome() {
        // In mind first: a FAULT further on must leave all as it was.
        mind.copyFrom(now);
        int statements = 0;
        int at = 0;
        while (at < letters.size) {
            if (!isAsItMustBe(at)) {
                return -2000 - at;
            }
            comes(at);
            statements++;
            at += 1 + letters.lengthBehind(at);
        }
        now.copyFrom(mind);
        return statements;
    }

    private boolean isAsItMustBe(int at) {
        switch (letters.signAt(at)) {
            case 'n': return outside(letters.number(at + 1), LEAST_INCHES, MOST_INCHES) == FINE;
            case 'i': return mind.hasInch(letters.number(at + 2));
            case 'e': return isEnd(letters.digit(at + 1))
                    && outside(letters.signed(at + 2), FARTHEST_OUT, DEEPEST) == FINE;
            case 'k': return isEnd(letters.digit(at + 1));
            case 'p': return letters.digit(at + 1) >= 1;
            case 'w': return outside(letters.number(at + 1), 1, MOST_WASHES) == FINE;
            default: return true;
        }
    }

    private void comes(int at) {
        int digit = letters.digit(at + 1);
        switch (letters.signAt(at)) {
            case 'n':
                mind.length = letters.number(at + 1);
                break;
            case 'i':
                mind.make(letters.number(at + 2), Kind.ofSign(letters.signAt(at + 1)), letters.digit(at + 4));
                break;
            case 'e':
                mind.place(digit, letters.signed(at + 2));
                break;
            case 'k':
                mind.knot(digit, !mind.isKnotted(digit));
                break;
            case 's':
                mind.sewn = !mind.sewn;
                break;
            case 'p':
                mind.pin = digit;
                mind.strength = letters.digit(at + 2);
                break;
            default:
                mind.washTimes(letters.number(at + 1));
        }
    }

    /** NONE for one that is not LOST too: it is not to be BUNCHED, so it can not be the soonest. */
    private int secondsIfLost(int end) {
        if (!now.isLost(end)) {
            return NONE;
        }
        way.measure(now, end, now.depth(end));
        return way.seconds;
    }

    /** What is in mind stays where the first END is LOST, for which it is. */
    private int washesTillLost() {
        mind.copyFrom(now);
        for (int washes = 0; washes <= MOST_IN_MIND; washes++) {
            if (mind.lostEnds() > 0) {
                return washes;
            }
            mind.washOnce();
        }
        return NONE;
    }

    private int secondsWithStop(int stop, int n) {
        mind.copyFrom(now);
        int price = 0;
        if (stop == 1 || stop == 3) {
            mind.knot(0, true);
            price += KNOT_PRICE;
        }
        if (stop == 2 || stop == 3) {
            mind.knot(1, true);
            price += KNOT_PRICE;
        }
        if (stop == 4) {
            mind.sewn = true;
            price += STITCH_PRICE;
        }
        mending.goOn(mind, way, n);
        return price + mending.seconds;
    }

    private int rankWithCloth(int inch, int end) {
        mind.copyFrom(now);
        mind.make(inch, Kind.CLOTH, 0);
        way.measure(mind, end, mind.depth(end));
        return way.rank();
    }

    private int kindsByRow(int inch) {
        int bits = 0;
        for (int kind = 0; kind < Kind.HOW_MANY; kind++) {
            mind.copyFrom(now);
            mind.make(inch, kind, now.figureAt(inch));
            if (told.firstNotSo(mind, 0) == NONE) {
                bits |= 1 << kind;
            }
        }
        return bits;
    }

    private int strengthsByRow() {
        int bits = 0;
        for (int strength = 0; strength <= DIGIT; strength++) {
            mind.copyFrom(now);
            mind.strength = strength;
            if (told.firstNotSo(mind, 0) == NONE) {
                bits |= 1 << strength;
            }
        }
        return bits;
    }

    private int lotSeconds(int end) {
        way.measure(mind, end, mind.depth(end));
        return way.isAWay() ? way.seconds : LOT_NEVER;
    }

    /** What a KIND does not tell of its own it has from the one that it is under. */
    private static final class Kind {
        static final int CLOTH = 0;
        static final int SEAM = 1;
        static final int ELASTIC = 2;
        static final int LINING = 3;
        static final int VELVET = 4;
        static final int BEADED = 5;
        static final int HOW_MANY = 6;

        private static final String SIGNS = "cselvb";

        static boolean isSign(int sign) {
            return SIGNS.indexOf((char) sign) >= 0;
        }

        static int ofSign(int sign) {
            return Math.max(CLOTH, SIGNS.indexOf((char) sign));
        }

        static boolean isSeam(int kind) {
            return kind == SEAM || kind == LINING || kind == BEADED;
        }

        static int bunchMove(int kind) {
            switch (kind) {
                case SEAM:
                case BEADED: return 1;
                case LINING: return 0;
                case ELASTIC: return 3;
                default: return 2;
            }
        }

        static int bunchSeconds(int kind, int figure) {
            switch (kind) {
                case SEAM:
                case LINING:
                case BEADED: return 5;
                case VELVET: return 3 + figure;
                default: return 3;
            }
        }

        static int threadSeconds(int kind, int figure) {
            switch (kind) {
                case SEAM:
                case BEADED: return 9;
                case LINING: return 9 + figure;
                case VELVET: return 6;
                default: return 4;
            }
        }

        static int washDraw(int kind, int strength) {
            switch (kind) {
                case SEAM:
                case LINING: return strength / 2;
                case BEADED: return 0;
                case ELASTIC: return strength + 1;
                default: return strength;
            }
        }
    }

    /** All that an IMAGE holds: INCHES, both ENDS, KNOTS, the STITCH, PIN, PULL (strength here). */
    private static final class Hem {
        private final int[] kinds = new int[MOST_INCHES];
        private final int[] figures = new int[MOST_INCHES];
        private int length = 6;
        private int firstIn = THREADED;
        private int secondIn = THREADED;
        private boolean firstKnot = false;
        private boolean secondKnot = false;
        private boolean sewn = false;
        private int pin = 3;
        private int strength = 3;

        void copyFrom(Hem other) {
            for (int inch = 0; inch < MOST_INCHES; inch++) {
                make(inch, other.kindAt(inch), other.figureAt(inch));
            }
            length = other.length;
            firstIn = other.firstIn;
            secondIn = other.secondIn;
            firstKnot = other.firstKnot;
            secondKnot = other.secondKnot;
            sewn = other.sewn;
            pin = other.pin;
            strength = other.strength;
        }

        boolean hasInch(int inch) {
            return inch >= 0 && inch < length;
        }

        int kindAt(int inch) {
            return inch >= 0 && inch < kinds.length ? kinds[inch] : Kind.CLOTH;
        }

        int figureAt(int inch) {
            return inch >= 0 && inch < figures.length ? figures[inch] : 0;
        }

        void make(int inch, int kind, int figure) {
            if (inch >= 0 && inch < kinds.length && inch < figures.length) {
                kinds[inch] = kind;
                figures[inch] = figure;
            }
        }

        int bunchMove(int inch) {
            return Kind.bunchMove(kindAt(inch));
        }

        int bunchSeconds(int inch) {
            return Kind.bunchSeconds(kindAt(inch), figureAt(inch));
        }

        int threadSeconds(int inch) {
            return Kind.threadSeconds(kindAt(inch), figureAt(inch));
        }

        int washDraw(int inch) {
            return Kind.washDraw(kindAt(inch), strength);
        }

        int seams() {
            int seams = 0;
            for (int inch = 0; inch < length; inch++) {
                seams += Kind.isSeam(kindAt(inch)) ? 1 : 0;
            }
            return seams;
        }

        int secondsAnewOf(int inch, int withPin) {
            return threadSeconds(inch) + (Kind.isSeam(kindAt(inch)) ? 10 - withPin : 0);
        }

        int secondsAnew(int withPin) {
            int seconds = 0;
            for (int inch = 0; inch < length; inch++) {
                seconds += secondsAnewOf(inch, withPin);
            }
            return seconds;
        }

        void threadAnew() {
            firstIn = THREADED;
            secondIn = THREADED;
        }

        int depth(int end) {
            return end == 0 ? firstIn : secondIn;
        }

        void place(int end, int depth) {
            if (end == 0) {
                firstIn = depth;
            } else {
                secondIn = depth;
            }
        }

        boolean isKnotted(int end) {
            return end == 0 ? firstKnot : secondKnot;
        }

        void knot(int end, boolean tied) {
            if (end == 0) {
                firstKnot = tied;
            } else {
                secondKnot = tied;
            }
        }

        boolean isLost(int end) {
            return depth(end) >= 1;
        }

        int lostEnds() {
            return (isLost(0) ? 1 : 0) + (isLost(1) ? 1 : 0);
        }

        int inchAt(int end, int depth) {
            int fromItsSide = depth >= 1 ? Math.min((depth - 1) / 2, length - 1) : 0;
            return end == 0 ? fromItsSide : length - 1 - fromItsSide;
        }

        int canDraw(int end, int n) {
            if (sewn) {
                return 0;
            }
            int own = end == 0 ? firstIn : secondIn;
            int others = end == 0 ? secondIn : firstIn;
            boolean othersKnot = end == 0 ? secondKnot : firstKnot;
            int far = Math.min(own - FARTHEST_OUT, (othersKnot ? 0 : DEEPEST) - others);
            // A KNOT may be at an END that is deeper than 0 already: it holds, and brings nothing back.
            return Math.max(0, Math.min(n, far));
        }

        /** An END is PULLED: how far it went. */
        int draw(int end, int n) {
            int far = canDraw(end, n);
            int other = 1 - end;
            place(end, depth(end) - far);
            place(other, depth(other) + far);
            return far;
        }

        int washOnce() {
            int deeper = secondIn > firstIn ? 1 : 0;
            return draw(1 - deeper, washDraw(inchAt(deeper, depth(deeper))));
        }

        void washTimes(int n) {
            for (int washes = 0; washes < n; washes++) {
                if (washOnce() == 0) {
                    // Nothing else changes by a WASH: all later ones are like this one.
                    return;
                }
            }
        }
    }

    /** BUNCHES to get an END out. */
    private static final class Way {
        /** Far above the SECONDS of any way that there is, for what never is out comes last. */
        private static final int NEVER_RANK = 1000000;

        private int bunches = 0;
        private int seconds = 0;
        private int dearest = NONE;

        void measure(Hem hem, int end, int depth) {
            bunches = 0;
            seconds = 0;
            dearest = NONE;
            int left = depth;
            int most = 0;
            int here = 0;
            int last = NONE;
            // A BUNCH that moves at all moves a half inch: as many as it is deep are enough.
            for (int round = 0; round < DEEPEST && left >= 1; round++) {
                int inch = hem.inchAt(end, left);
                int move = hem.bunchMove(inch);
                if (move <= 0) {
                    neverIsOut();
                    return;
                }
                here = inch == last ? here + hem.bunchSeconds(inch) : hem.bunchSeconds(inch);
                last = inch;
                if (here >= most) {
                    // The way goes toward the END's side: of several alike the later one is the first from there.
                    most = here;
                    dearest = inch;
                }
                bunches++;
                seconds += hem.bunchSeconds(inch);
                left -= move;
            }
        }

        private void neverIsOut() {
            bunches = NONE;
            seconds = NONE;
            dearest = NONE;
        }

        boolean isAWay() {
            return seconds != NONE;
        }

        int rank() {
            return isAWay() ? seconds : NEVER_RANK;
        }

        /** SECONDS to BUNCH all LOST ENDS out; NONE if one never is. */
        int secondsOfAll(Hem hem) {
            int all = 0;
            for (int end = 0; end <= 1; end++) {
                measure(hem, end, hem.depth(end));
                if (!isAWay()) {
                    return NONE;
                }
                all += seconds;
            }
            return all;
        }
    }

    /** WASHES with each LOST END got out behind them. */
    private static final class Mending {
        private int times = 0;
        private int seconds = 0;

        void goOn(Hem hem, Way way, int n) {
            times = 0;
            seconds = 0;
            int anew = hem.secondsAnew(hem.pin);
            for (int washes = 0; washes < n; washes++) {
                int before = times;
                int moved = hem.washOnce();
                mend(hem, way, 0, anew);
                mend(hem, way, 1, anew);
                if (moved == 0 && times == before) {
                    // All is as it was ahead of this WASH, so no later one costs anything.
                    return;
                }
            }
        }

        private void mend(Hem hem, Way way, int end, int anew) {
            if (!hem.isLost(end)) {
                return;
            }
            times++;
            way.measure(hem, end, hem.depth(end));
            if (!way.isAWay() || anew < way.seconds) {
                hem.threadAnew();
                seconds += anew;
            } else {
                hem.place(end, 0);
                seconds += way.seconds;
            }
        }
    }

    /** The letters that came, and how a HEM is written with them. */
    private static final class Letters {
        static final int HIGHEST = 255;
        private static final int MOST = 96;
        private static final String NO_FORM = "";

        private final int[] signs = new int[MOST];
        private int size = 0;

        boolean isFull() {
            return size >= signs.length;
        }

        void add(int sign) {
            if (size >= 0 && size < signs.length) {
                signs[size] = sign;
                size++;
            }
        }

        void clear() {
            size = 0;
        }

        int signAt(int place) {
            return place >= 0 && place < size && place < signs.length ? signs[place] : 0;
        }

        int digit(int place) {
            return signAt(place) - '0';
        }

        int number(int place) {
            return 10 * digit(place) + digit(place + 1);
        }

        int signed(int place) {
            return signAt(place) == '-' ? -number(place + 1) : number(place + 1);
        }

        int lengthBehind(int place) {
            return formBehind(signAt(place)).length();
        }

        /** The place of a FAULT of kind 1; NONE without one. */
        int firstUnfit() {
            int place = 0;
            do {
                String form = formBehind(signAt(place));
                if (place >= size || form.isEmpty()) {
                    return place;
                }
                place++;
                for (int i = 0; i < form.length(); i++) {
                    if (place >= size || !fits(form.charAt(i), signAt(place))) {
                        return place;
                    }
                    place++;
                }
            } while (place < size);
            return NONE;
        }

        /** What comes behind a STATEMENT's first letter: # a digit, k a KIND, + or - a sign. */
        private static String formBehind(int first) {
            switch (first) {
                case 'n':
                case 'p':
                case 'w': return "##;";
                case 'i': return "k###;";
                case 'e': return "#+##;";
                case 'k': return "#;";
                case 's': return ";";
                default: return NO_FORM;
            }
        }

        private static boolean fits(int form, int sign) {
            switch (form) {
                case '#': return sign >= '0' && sign <= '9';
                case 'k': return Kind.isSign(sign);
                case '+': return sign == '+' || sign == '-';
                default: return sign == form;
            }
        }
    }

    /** The ROW of numbers that tell an END's IN behind one WASH after another. */
    private static final class Row {
        static final int HIGHEST = 99;
        private static final int MOST = 12;
        private static final int TOLD_MORE = 50;

        private final int[] numbers = new int[MOST];
        private int size = 0;

        boolean isFull() {
            return size >= numbers.length;
        }

        void add(int number) {
            if (size >= 0 && size < numbers.length) {
                numbers[size] = number;
                size++;
            }
        }

        void clear() {
            size = 0;
        }

        /** The hem is WASHED on the way. */
        int firstNotSo(Hem hem, int end) {
            for (int at = 0; at < size && at < numbers.length; at++) {
                if (numbers[at] != hem.depth(end) + TOLD_MORE) {
                    return at;
                }
                hem.washOnce();
            }
            return NONE;
        }
    }
}

/**
 * A polar planimeter: a tracer on a jointed arm follows an outline step by step, and a wheel with
 * play and slips measures the area. What each method promises stands in DOC.md.
 *
 * All rows are made once, in the constructors, and used again: a call makes no object but the
 * exception that it throws.
 */
public final class PolarPlanimeter {
    public static final int NONE = -1;

    private static final int POLE = 0;
    private static final int TRACER = 1;
    private static final int STEP = 2;
    private static final int SIDE = 3;
    private static final int PLAY = 4;
    private static final int SETTINGS = 5;
    private static final int[] LEAST = {200, 200, 20, 0, 0};
    private static final int[] GREATEST = {3000, 3000, 200, 1, 10000};
    private static final int[] AT_FIRST = {1200, 1000, 50, 0, 50};

    private static final int GREATEST_ANCHOR = 2000;
    private static final int GREATEST_CORNER = 1000;
    private static final int GREATEST_FINE = 40000;
    private static final int GREATEST_TOLERANCE = 100000;
    private static final int TOLERANCE_AT_FIRST = 200;
    private static final int GREATEST_SLIP = 100;
    private static final int LEAST_CORNERS = 3;
    private static final int MOST_CORNERS = 20;
    private static final int MOST_RUNS = 12;
    private static final int MOST_SAVED = 6;
    private static final int MOST_CHARACTERS = 60;
    private static final int FIRST_CODE = 33;
    private static final int LAST_CODE = 126;
    private static final int ARM_STRIDE = 100;

    private static final long FINE = 16;
    /** Twice the area of one square unit in fine units: what is swept is told so. */
    private static final long TWICE_FINE_SQUARE = 512;

    private static final int COUNTS = 15;
    private static final int CORNER_PROPERTIES = 6;
    private static final int RUN_PROPERTIES = 6;
    private static final int ELBOW_NUMBERS = 3;

    private static final int NOT_REFUSED = 0;
    private static final int TOO_FEW_CORNERS = 1;
    private static final int ANCHOR_ON_OUTLINE = 2;
    private static final int OUT_OF_REACH = 3;
    private static final int TOO_MANY_RUNS = 4;

    private static final long FIRST_HASH = 2113;
    private static final long HASH_FACTOR = 31;
    private static final int FRACTION_BITS = 52;
    private static final long SIGN_BIT = 1L << 63;
    private static final long ABOVE_ALL_SQUARES = 1L << 62;
    private static final int EXPONENT_BIAS = 1023;

    private final State now = new State();
    private final State trial = new State();
    private final History history = new History();
    private final Follower follower = new Follower();
    private final Mean mean = new Mean();
    private final TextReader reader = new TextReader();
    private final int[] buffer = new int[MOST_CHARACTERS];
    private int bufferLength;
    private int latestReason;

    public PolarPlanimeter() {
    }

    // ---- the instrument

    public int setAnchor(int x, int y) throws IllegalArgumentException {
        if (!isWithin(x, GREATEST_ANCHOR) || !isWithin(y, GREATEST_ANCHOR)) {
            throw new IllegalArgumentException("the anchor is out of range");
        }
        history.save(now);
        now.anchorX = x;
        now.anchorY = y;
        return now.runs.clear();
    }

    public int set(int setting, int value) throws IndexOutOfBoundsException, IllegalArgumentException {
        checkSetting(setting);
        checkValue(setting, value);
        history.save(now);
        int previous = now.settings[setting];
        now.settings[setting] = value;
        now.runs.clear();
        return previous;
    }

    public int setTolerance(int tolerance) throws IllegalArgumentException {
        if (tolerance < 0 || tolerance > GREATEST_TOLERANCE) {
            throw new IllegalArgumentException("the tolerance is out of range");
        }
        history.save(now);
        int previous = now.tolerance;
        now.tolerance = tolerance;
        return previous;
    }

    // ---- the outline

    public int insert(int k, int x, int y)
            throws IndexOutOfBoundsException, IllegalArgumentException, IllegalStateException {
        if (k < 0 || k > now.outline.corners) {
            throw new IndexOutOfBoundsException("a corner can't be inserted there");
        }
        checkPoint(x, y);
        if (now.outline.corners >= MOST_CORNERS) {
            throw new IllegalStateException("there are 20 corners");
        }
        history.save(now);
        now.outline.open(k, x, y);
        now.runs.clear();
        return now.outline.corners;
    }

    public int move(int k, int x, int y) throws IndexOutOfBoundsException, IllegalArgumentException {
        checkCorner(k);
        checkPoint(x, y);
        history.save(now);
        now.outline.xs[k] = x;
        now.outline.ys[k] = y;
        return now.runs.clear();
    }

    public int remove(int k) throws IndexOutOfBoundsException {
        checkCorner(k);
        history.save(now);
        now.outline.close(k);
        now.runs.clear();
        return now.outline.corners;
    }

    public int setSlip(int k, int slip) throws IndexOutOfBoundsException, IllegalArgumentException {
        checkCorner(k);
        if (slip < 0 || slip > GREATEST_SLIP) {
            throw new IllegalArgumentException("the slip is out of range");
        }
        history.save(now);
        int previous = now.outline.slips[k];
        now.outline.slips[k] = slip;
        return previous;
    }

    // ---- runs

    public int run(int corner, boolean backward) throws IndexOutOfBoundsException, IllegalStateException {
        checkCorner(corner);
        latestReason = refusal(now);
        if (latestReason != NOT_REFUSED) {
            throw new IllegalStateException("the run is refused");
        }
        history.save(now);
        now.runs.add(corner, backward, follower.sum(now, corner, backward));
        return now.runs.made - 1;
    }

    public int runAll() {
        history.save(now);
        latestReason = NOT_REFUSED;
        int before = now.runs.made;
        for (int i = 0; i < 2 * now.outline.corners; i++) {
            latestReason = refusal(now);
            if (latestReason != NOT_REFUSED) {
                break;
            }
            int corner = i / 2;
            boolean backward = i % 2 == 1;
            now.runs.add(corner, backward, follower.sum(now, corner, backward));
        }
        return now.runs.made - before;
    }

    public int forget() {
        history.save(now);
        return now.runs.clear();
    }

    // ---- texts

    public int append(int code) throws IllegalArgumentException, IllegalStateException {
        if (code < FIRST_CODE || code > LAST_CODE) {
            throw new IllegalArgumentException("the code is not 33 to 126");
        }
        if (bufferLength >= MOST_CHARACTERS) {
            throw new IllegalStateException("the buffer has 60 characters");
        }
        buffer[bufferLength] = code;
        bufferLength++;
        return bufferLength;
    }

    public int clearBuffer() {
        int length = bufferLength;
        bufferLength = 0;
        return length;
    }

    public int firstError() {
        return reader.read(buffer, bufferLength);
    }

    public int load() throws IllegalArgumentException {
        int read = reader.read(buffer, bufferLength);
        if (read < bufferLength || !reader.isComplete()) {
            throw new IllegalArgumentException("the buffer is not a complete outline");
        }
        history.save(now);
        reader.putInto(now.outline);
        now.runs.clear();
        bufferLength = 0;
        return now.outline.corners;
    }

    public int undo() throws IllegalStateException {
        if (history.saved == 0) {
            throw new IllegalStateException("there is no saved state");
        }
        history.restore(now);
        return history.saved;
    }

    // ---- what there is

    public int reason() {
        return latestReason;
    }

    public long corner(int k, int what) throws IndexOutOfBoundsException, IllegalArgumentException {
        checkCorner(k);
        checkWhat(what, CORNER_PROPERTIES);
        return cornerProperty(k, what);
    }

    public long made(int run, int what) throws IndexOutOfBoundsException, IllegalArgumentException {
        if (run < 0 || run >= now.runs.made) {
            throw new IndexOutOfBoundsException("there is no such run");
        }
        checkWhat(what, RUN_PROPERTIES);
        return runProperty(run, what);
    }

    public long elbow(int tx, int ty, int what) throws IllegalArgumentException {
        if (!isWithin(tx, GREATEST_FINE) || !isWithin(ty, GREATEST_FINE)) {
            throw new IllegalArgumentException("the tracer is out of range");
        }
        checkWhat(what, ELBOW_NUMBERS);
        Arm arm = follower.arm;
        arm.fit(now);
        boolean reached = arm.place(tx, ty);
        if (what == 0) {
            return reached ? 1 : 0;
        }
        return what == 1 ? arm.elbowX : arm.elbowY;
    }

    public long count(int what) throws IllegalArgumentException {
        checkWhat(what, COUNTS);
        return number(what);
    }

    public int setting(int setting) throws IndexOutOfBoundsException {
        checkSetting(setting);
        return now.settings[setting];
    }

    // ---- what would be; nothing is changed

    public int why(int corner, boolean backward) throws IndexOutOfBoundsException {
        checkCorner(corner);
        return refusal(now);
    }

    public long ifSet(int corner, boolean backward, int setting, int value)
            throws IndexOutOfBoundsException, IllegalArgumentException {
        checkCorner(corner);
        checkSetting(setting);
        checkValue(setting, value);
        trial.copy(now);
        trial.settings[setting] = value;
        trial.runs.clear();
        if (refusal(trial) != NOT_REFUSED) {
            return 0;
        }
        return follower.sum(trial, corner, backward);
    }

    public int leastArm() {
        if (now.outline.corners == 0) {
            return NONE;
        }
        follower.measureAll(now);
        for (int arm = LEAST[TRACER]; arm <= GREATEST[TRACER]; arm += ARM_STRIDE) {
            if (follower.reachesMeasuredWith(arm)) {
                return arm;
            }
        }
        return NONE;
    }

    public double error() {
        long area = now.outline.area();
        if (now.runs.made == 0 || area == 0) {
            return 0.0;
        }
        return (double) meanMinusArea() / (double) area;
    }

    public long digest() {
        long hash = FIRST_HASH;
        for (int what = 0; what < COUNTS; what++) {
            hash = hashed(hash, number(what));
        }
        for (int i = 0; i < SETTINGS; i++) {
            hash = hashed(hash, now.settings[i]);
        }
        for (int k = 0; k < now.outline.corners; k++) {
            for (int what = 0; what < CORNER_PROPERTIES; what++) {
                hash = hashed(hash, cornerProperty(k, what));
            }
        }
        for (int run = 0; run < now.runs.made; run++) {
            for (int what = 0; what < RUN_PROPERTIES; what++) {
                hash = hashed(hash, runProperty(run, what));
            }
        }
        hash = hashed(hash, leastArm());
        hash = hashed(hash, errorBits());
        hash = hashed(hash, latestReason);
        hash = hashed(hash, bufferLength);
        for (int i = 0; i < bufferLength; i++) {
            hash = hashed(hash, buffer[i]);
        }
        return hash;
    }

    // ---- tests of arguments

    private static boolean isWithin(int value, int greatest) {
        return value >= -greatest && value <= greatest;
    }

    private static void checkSetting(int setting) {
        if (setting < 0 || setting >= SETTINGS) {
            throw new IndexOutOfBoundsException("there is no such setting");
        }
    }

    private static void checkValue(int setting, int value) {
        if (value < LEAST[setting] || value > GREATEST[setting]) {
            throw new IllegalArgumentException("the value is out of range");
        }
    }

    private static void checkPoint(int x, int y) {
        if (!isWithin(x, GREATEST_CORNER) || !isWithin(y, GREATEST_CORNER)) {
            throw new IllegalArgumentException("the corner is out of range");
        }
    }

    private static void checkWhat(int what, int properties) {
        if (what < 0 || what >= properties) {
            throw new IllegalArgumentException("there is no such number");
        }
    }

    private void checkCorner(int k) {
        if (k < 0 || k >= now.outline.corners) {
            throw new IndexOutOfBoundsException("there is no such corner");
        }
    }

    // ---- what the calls share

    private int refusal(State state) {
        if (state.outline.corners < LEAST_CORNERS) {
            return TOO_FEW_CORNERS;
        }
        if (state.outline.touches(state.anchorX, state.anchorY)) {
            return ANCHOR_ON_OUTLINE;
        }
        follower.measureAll(state);
        if (!follower.reachesMeasured()) {
            return OUT_OF_REACH;
        }
        return state.runs.made >= MOST_RUNS ? TOO_MANY_RUNS : NOT_REFUSED;
    }

    private long cornerProperty(int k, int what) {
        Outline outline = now.outline;
        switch (what) {
            case 0:
                return outline.xs[k];
            case 1:
                return outline.ys[k];
            case 2:
                return outline.slips[k];
            case 3:
                return outline.steps(k, now.settings[STEP]);
            case 4:
                return follower.reachesSegment(now, k) ? follower.roll(now, k) : 0;
            default:
                return follower.reachesSegment(now, k) ? 1 : 0;
        }
    }

    private long runProperty(int run, int what) {
        Runs runs = now.runs;
        switch (what) {
            case 0:
                return runs.corners[run];
            case 1:
                return runs.backward[run] ? 1 : 0;
            case 2:
                return runs.sums[run];
            case 3:
                return quotient(runs.sums[run], TWICE_FINE_SQUARE * now.settings[TRACER]);
            case 4:
                return runs.area(run, now.constant());
            default:
                mean.take(now);
                return mean.leftOut[run] ? 1 : 0;
        }
    }

    private long number(int what) {
        switch (what) {
            case 0:
                return now.outline.corners;
            case 1:
                return now.runs.made;
            case 2:
                return now.anchorX;
            case 3:
                return now.anchorY;
            case 4:
                return now.tolerance;
            case 5:
                return now.outline.twiceArea();
            case 6:
                return now.outline.area();
            case 7:
                return now.outline.windingAround(now.anchorX, now.anchorY);
            case 8:
                return now.constant();
            case 9:
                return now.outline.touches(now.anchorX, now.anchorY) ? 1 : 0;
            case 10:
                mean.take(now);
                return mean.value;
            case 11:
                mean.take(now);
                return now.runs.made - mean.kept;
            case 12:
                return meanMinusArea();
            case 13:
                return now.outline.allSteps(now.settings[STEP]);
            default:
                return history.saved;
        }
    }

    private long meanMinusArea() {
        if (now.runs.made == 0) {
            return 0;
        }
        mean.take(now);
        return mean.value - now.outline.area();
    }

    private static long hashed(long hash, long value) {
        return HASH_FACTOR * hash + value;
    }

    /** The sign is told by the two numbers, since 0.0 divided by a negative area is -0.0. */
    private long errorBits() {
        long area = now.outline.area();
        if (now.runs.made == 0 || area == 0) {
            return 0;
        }
        long difference = meanMinusArea();
        boolean negative = (difference < 0) != (area < 0);
        long bits = bitsOfSize((double) Math.abs(difference) / (double) Math.abs(area));
        return negative ? bits | SIGN_BIT : bits;
    }

    /** Double.doubleToLongBits is outside the allowed library; halving and doubling lose nothing here. */
    private static long bitsOfSize(double size) {
        if (size == 0) {
            return 0;
        }
        double rest = size;
        long exponent = 0;
        while (rest >= 2 && exponent < EXPONENT_BIAS) {
            rest /= 2;
            exponent++;
        }
        while (rest < 1 && exponent > 1 - EXPONENT_BIAS) {
            rest *= 2;
            exponent--;
        }
        long fraction = (long) ((rest - 1) * (double) (1L << FRACTION_BITS));
        return ((exponent + EXPONENT_BIAS) << FRACTION_BITS) | fraction;
    }

    /** No divisor is 0 in the document's ranges; the test keeps the machine from throwing in any case. */
    private static long quotient(long number, long divisor) {
        return divisor == 0 ? 0 : number / divisor;
    }

    /** Newton's steps from a power of two above the root: they fall until they have reached it. */
    private static long root(long number) {
        if (number <= 0) {
            return 0;
        }
        int bits = 64 - Long.numberOfLeadingZeros(number);
        long guess = 1L << ((bits + 1) / 2);
        for (int i = 0; i < 64; i++) {
            long next = (guess + quotient(number, guess)) / 2;
            if (next >= guess) {
                break;
            }
            guess = next;
        }
        return guess;
    }

    /** Above 0 if c is on the left of the way from a to b, below 0 if it is on the right. */
    private static long cross(long ax, long ay, long bx, long by, long cx, long cy) {
        return (bx - ax) * (cy - ay) - (by - ay) * (cx - ax);
    }

    private static boolean isBetween(int value, int end, int otherEnd) {
        return value >= Math.min(end, otherEnd) && value <= Math.max(end, otherEnd);
    }

    /** Everything that undo restores. */
    private static final class State {
        private int anchorX;
        private int anchorY;
        private int tolerance = TOLERANCE_AT_FIRST;
        private final int[] settings = new int[SETTINGS];
        private final Outline outline = new Outline();
        private final Runs runs = new Runs();

        private State() {
            System.arraycopy(AT_FIRST, 0, settings, 0, SETTINGS);
        }

        private void copy(State other) {
            anchorX = other.anchorX;
            anchorY = other.anchorY;
            tolerance = other.tolerance;
            System.arraycopy(other.settings, 0, settings, 0, SETTINGS);
            outline.copy(other.outline);
            runs.copy(other.runs);
        }

        private long constant() {
            long pole = settings[POLE];
            return outline.windingAround(anchorX, anchorY) * (355 * pole * pole / 113);
        }
    }

    /** The corners, each one with the slip of the segment that begins there. */
    private static final class Outline {
        private int corners;
        private final int[] xs = new int[MOST_CORNERS];
        private final int[] ys = new int[MOST_CORNERS];
        private final int[] slips = new int[MOST_CORNERS];

        private void copy(Outline other) {
            corners = other.corners;
            System.arraycopy(other.xs, 0, xs, 0, MOST_CORNERS);
            System.arraycopy(other.ys, 0, ys, 0, MOST_CORNERS);
            System.arraycopy(other.slips, 0, slips, 0, MOST_CORNERS);
        }

        /** Puts a corner at k, of 0 to the number of corners; the caller has seen that there is room. */
        private void open(int k, int x, int y) {
            for (int i = corners; i > k; i--) {
                put(i, xs[i - 1], ys[i - 1], slips[i - 1]);
            }
            put(k, x, y, 0);
            corners++;
        }

        private void close(int k) {
            corners--;
            for (int i = k; i < corners; i++) {
                put(i, xs[i + 1], ys[i + 1], slips[i + 1]);
            }
        }

        private void put(int k, int x, int y, int slip) {
            xs[k] = x;
            ys[k] = y;
            slips[k] = slip;
        }

        private int next(int k) {
            return k + 1 < corners ? k + 1 : 0;
        }

        private int previous(int k) {
            return k > 0 ? k - 1 : corners - 1;
        }

        private int steps(int k, int step) {
            int next = next(k);
            int longer = Math.max(Math.abs(xs[next] - xs[k]), Math.abs(ys[next] - ys[k]));
            return (int) Math.max(1, quotient(longer + step - 1, step));
        }

        private long allSteps(int step) {
            long sum = 0;
            for (int k = 0; k < corners; k++) {
                sum += steps(k, step);
            }
            return sum;
        }

        private long twiceArea() {
            long sum = 0;
            for (int k = 0; k < corners; k++) {
                int next = next(k);
                sum += (long) xs[k] * ys[next] - (long) xs[next] * ys[k];
            }
            return sum;
        }

        private long area() {
            return twiceArea() / 2;
        }

        private long windingAround(int x, int y) {
            long sum = 0;
            for (int k = 0; k < corners; k++) {
                sum += crossing(k, x, y);
            }
            return sum;
        }

        private int crossing(int k, int x, int y) {
            int next = next(k);
            long side = cross(xs[k], ys[k], xs[next], ys[next], x, y);
            if (ys[k] <= y && ys[next] > y && side > 0) {
                return 1;
            }
            if (ys[k] > y && ys[next] <= y && side < 0) {
                return -1;
            }
            return 0;
        }

        private boolean touches(int x, int y) {
            for (int k = 0; k < corners; k++) {
                int next = next(k);
                boolean inLine = cross(xs[k], ys[k], xs[next], ys[next], x, y) == 0;
                if (inLine && isBetween(x, xs[k], xs[next]) && isBetween(y, ys[k], ys[next])) {
                    return true;
                }
            }
            return false;
        }

        private long fineX(int k, int i, int steps) {
            return finePart(xs[k], xs[next(k)], i, steps);
        }

        private long fineY(int k, int i, int steps) {
            return finePart(ys[k], ys[next(k)], i, steps);
        }

        private static long finePart(int from, int to, int i, int steps) {
            return FINE * from + quotient(FINE * (to - from) * i, steps);
        }
    }

    /** The runs that are kept. */
    private static final class Runs {
        private int made;
        private final int[] corners = new int[MOST_RUNS];
        private final boolean[] backward = new boolean[MOST_RUNS];
        private final long[] sums = new long[MOST_RUNS];

        private void copy(Runs other) {
            made = other.made;
            for (int run = 0; run < made; run++) {
                corners[run] = other.corners[run];
                backward[run] = other.backward[run];
                sums[run] = other.sums[run];
            }
        }

        private int clear() {
            int before = made;
            made = 0;
            return before;
        }

        private void add(int corner, boolean isBackward, long sum) {
            if (made < MOST_RUNS) {
                corners[made] = corner;
                backward[made] = isBackward;
                sums[made] = sum;
                made++;
            }
        }

        private long area(int run, long constant) {
            return sums[run] / TWICE_FINE_SQUARE + constant;
        }
    }

    /** The saved states, the oldest one first. */
    private static final class History {
        private int saved;
        private final State[] states = new State[MOST_SAVED];

        private History() {
            for (int i = 0; i < MOST_SAVED; i++) {
                states[i] = new State();
            }
        }

        private void save(State state) {
            if (saved == MOST_SAVED) {
                dropOldest();
            }
            states[saved].copy(state);
            saved++;
        }

        /** The oldest one's rows are used again for the next state. */
        private void dropOldest() {
            State oldest = states[0];
            for (int i = 1; i < MOST_SAVED; i++) {
                states[i - 1] = states[i];
            }
            states[MOST_SAVED - 1] = oldest;
            saved--;
        }

        private void restore(State state) {
            if (saved > 0) {
                saved--;
                state.copy(states[saved]);
            }
        }
    }

    /** The jointed arm, in fine units. */
    private static final class Arm {
        private long anchorX;
        private long anchorY;
        private long pole;
        private long tracer;
        private boolean otherSide;
        private long tracerX;
        private long tracerY;
        private long elbowX;
        private long elbowY;

        private void fit(State state) {
            anchorX = FINE * state.anchorX;
            anchorY = FINE * state.anchorY;
            pole = FINE * state.settings[POLE];
            tracer = FINE * state.settings[TRACER];
            otherSide = state.settings[SIDE] == 1;
        }

        private long squareTo(long x, long y) {
            long dx = x - anchorX;
            long dy = y - anchorY;
            return dx * dx + dy * dy;
        }

        private boolean spans(long distance) {
            return distance > 0 && distance <= pole + tracer && distance >= Math.abs(pole - tracer);
        }

        /** Puts the tracer there; false, with the elbow at (0, 0), if the point is not in reach. */
        private boolean place(long x, long y) {
            tracerX = x;
            tracerY = y;
            elbowX = 0;
            elbowY = 0;
            long square = squareTo(x, y);
            long distance = root(square);
            if (!spans(distance)) {
                return false;
            }
            long along = quotient(square + pole * pole - tracer * tracer, 2 * distance);
            long across = root(Math.max(0, pole * pole - along * along));
            if (otherSide) {
                across = -across;
            }
            long dx = x - anchorX;
            long dy = y - anchorY;
            elbowX = anchorX + quotient(dx * along - dy * across, distance);
            elbowY = anchorY + quotient(dy * along + dx * across, distance);
            return true;
        }

        /** Goes one step; twice the area that the tracer arm sweeps. */
        private long sweepTo(long x, long y) {
            long fromX = tracerX;
            long fromY = tracerY;
            long hingeX = elbowX;
            long hingeY = elbowY;
            place(x, y);
            return cross(hingeX, hingeY, fromX, fromY, x, y) + cross(hingeX, hingeY, x, y, elbowX, elbowY);
        }
    }

    /** The wheel with its play: it stands still as long as the slack is taken up. */
    private static final class Wheel {
        private long play;
        private long slack;
        private long counted;

        private void start(int playSetting) {
            play = TWICE_FINE_SQUARE * playSetting;
            slack = 0;
            counted = 0;
        }

        private void turn(long swept, int slip) {
            slack += swept * (100 - slip) / 100;
            if (slack > play) {
                counted += slack - play;
                slack = play;
            } else if (slack < 0) {
                counted += slack;
                slack = 0;
            }
        }
    }

    /** Follows segments and whole outlines with the arm. */
    private static final class Follower {
        private final Arm arm = new Arm();
        private final Wheel wheel = new Wheel();
        private long leastSquare;
        private long greatestSquare;

        private void measureAll(State state) {
            beginMeasuring(state);
            for (int k = 0; k < state.outline.corners; k++) {
                measure(state, k);
            }
        }

        private boolean reachesSegment(State state, int k) {
            beginMeasuring(state);
            measure(state, k);
            return reachesMeasured();
        }

        private void beginMeasuring(State state) {
            arm.fit(state);
            leastSquare = ABOVE_ALL_SQUARES;
            greatestSquare = 0;
        }

        private void measure(State state, int k) {
            Outline outline = state.outline;
            int steps = outline.steps(k, state.settings[STEP]);
            for (int i = 0; i <= steps; i++) {
                long square = arm.squareTo(outline.fineX(k, i, steps), outline.fineY(k, i, steps));
                leastSquare = Math.min(leastSquare, square);
                greatestSquare = Math.max(greatestSquare, square);
            }
        }

        /** The nearest and the farthest point tell of all: what is between them is in reach with them. */
        private boolean reachesMeasured() {
            return arm.spans(root(leastSquare)) && arm.spans(root(greatestSquare));
        }

        private boolean reachesMeasuredWith(int tracerSetting) {
            arm.tracer = FINE * tracerSetting;
            return reachesMeasured();
        }

        private long roll(State state, int k) {
            Outline outline = state.outline;
            int steps = outline.steps(k, state.settings[STEP]);
            arm.fit(state);
            arm.place(outline.fineX(k, 0, steps), outline.fineY(k, 0, steps));
            long sum = 0;
            for (int i = 1; i <= steps; i++) {
                sum += arm.sweepTo(outline.fineX(k, i, steps), outline.fineY(k, i, steps));
            }
            return sum;
        }

        private long sum(State state, int corner, boolean backward) {
            Outline outline = state.outline;
            arm.fit(state);
            arm.place(FINE * outline.xs[corner], FINE * outline.ys[corner]);
            wheel.start(state.settings[PLAY]);
            int k = backward ? outline.previous(corner) : corner;
            for (int i = 0; i < outline.corners; i++) {
                follow(outline, k, outline.steps(k, state.settings[STEP]), backward);
                k = backward ? outline.previous(k) : outline.next(k);
            }
            return backward ? -wheel.counted : wheel.counted;
        }

        private void follow(Outline outline, int k, int steps, boolean backward) {
            for (int i = 1; i <= steps; i++) {
                int point = backward ? steps - i : i;
                long swept = arm.sweepTo(outline.fineX(k, point, steps), outline.fineY(k, point, steps));
                wheel.turn(swept, outline.slips[k]);
            }
        }
    }

    /** The mean of the areas of the runs, without those that lie apart. */
    private static final class Mean {
        private final long[] areas = new long[MOST_RUNS];
        private final long[] ascending = new long[MOST_RUNS];
        private final boolean[] leftOut = new boolean[MOST_RUNS];
        private int runs;
        private int kept;
        private long value;

        private void take(State state) {
            runs = state.runs.made;
            kept = runs;
            long constant = state.constant();
            for (int run = 0; run < runs; run++) {
                areas[run] = state.runs.area(run, constant);
                leftOut[run] = false;
            }
            leaveOut(state.tolerance);
            value = quotient(sumOfKept(), kept);
        }

        private void leaveOut(int tolerance) {
            for (int i = 0; i < MOST_RUNS && kept > 2; i++) {
                long middle = middleOfKept();
                int apart = farthestFrom(middle);
                if (Math.abs(areas[apart] - middle) <= tolerance) {
                    break;
                }
                leftOut[apart] = true;
                kept--;
            }
        }

        private long middleOfKept() {
            int sorted = 0;
            for (int run = 0; run < runs; run++) {
                if (!leftOut[run]) {
                    sortIn(areas[run], sorted);
                    sorted++;
                }
            }
            return ascending[Math.max(0, sorted - 1) / 2];
        }

        private void sortIn(long area, int sorted) {
            int place = sorted;
            while (place > 0 && ascending[place - 1] > area) {
                ascending[place] = ascending[place - 1];
                place--;
            }
            ascending[place] = area;
        }

        private int farthestFrom(long middle) {
            int farthest = 0;
            long greatest = -1;
            for (int run = 0; run < runs; run++) {
                long distance = Math.abs(areas[run] - middle);
                if (!leftOut[run] && distance > greatest) {
                    greatest = distance;
                    farthest = run;
                }
            }
            return farthest;
        }

        private long sumOfKept() {
            long sum = 0;
            for (int run = 0; run < runs; run++) {
                if (!leftOut[run]) {
                    sum += areas[run];
                }
            }
            return sum;
        }
    }

    /** Reads an outline that is written as a text. */
    private static final class TextReader {
        private static final int BEFORE_NUMBER = 0;
        private static final int AFTER_MINUS = 1;
        private static final int IN_NUMBER = 2;

        private final int[] xs = new int[MOST_CORNERS];
        private final int[] ys = new int[MOST_CORNERS];
        private int latest;
        private int place;
        private boolean atY;
        private boolean negative;
        private int size;

        /** The index of the first character that can't stand there, or the length. */
        private int read(int[] codes, int length) {
            latest = 0;
            atY = false;
            beginNumber();
            for (int i = 0; i < length; i++) {
                if (!accept(codes[i])) {
                    return i;
                }
            }
            return length;
        }

        private boolean isComplete() {
            return place == IN_NUMBER && atY && latest + 1 >= LEAST_CORNERS;
        }

        private void putInto(Outline outline) {
            outline.corners = latest + 1;
            for (int k = 0; k <= latest; k++) {
                outline.put(k, xs[k], ys[k], 0);
            }
        }

        private void beginNumber() {
            place = BEFORE_NUMBER;
            negative = false;
            size = 0;
        }

        private boolean accept(int code) {
            switch (code) {
                case '-':
                    return acceptMinus();
                case ',':
                    return acceptComma();
                case ';':
                    return acceptSemicolon();
                default:
                    return code >= '0' && code <= '9' && acceptDigit(code - '0');
            }
        }

        private boolean acceptMinus() {
            if (place != BEFORE_NUMBER) {
                return false;
            }
            place = AFTER_MINUS;
            negative = true;
            return true;
        }

        private boolean acceptComma() {
            if (place != IN_NUMBER || atY) {
                return false;
            }
            atY = true;
            beginNumber();
            return true;
        }

        private boolean acceptSemicolon() {
            if (place != IN_NUMBER || !atY || latest + 1 >= MOST_CORNERS) {
                return false;
            }
            latest++;
            atY = false;
            beginNumber();
            return true;
        }

        private boolean acceptDigit(int digit) {
            boolean leadingZero = place == IN_NUMBER && size == 0;
            boolean minusZero = place == AFTER_MINUS && digit == 0;
            int longer = 10 * size + digit;
            if (leadingZero || minusZero || longer > GREATEST_CORNER) {
                return false;
            }
            place = IN_NUMBER;
            size = longer;
            keepNumber(negative ? -size : size);
            return true;
        }

        private void keepNumber(int number) {
            if (atY) {
                ys[latest] = number;
            } else {
                xs[latest] = number;
            }
        }
    }
}

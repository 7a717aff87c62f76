import java.math.BigInteger;
import java.util.ArrayDeque;
import java.util.ArrayList;
import java.util.List;
import java.util.regex.Pattern;

/**
 * The document once more, written plainly and apart from the program: states are copied whole, the
 * points of a run are listed before they are followed, texts are looked at with patterns.
 */
final class Model {
    private static final long[][] RANGES = {{200, 3000}, {200, 3000}, {20, 200}, {0, 1}, {0, 10000}};
    private static final Pattern OUTLINE =
            Pattern.compile("N,N(;N,N){2,19}".replace("N", "(0|-?(1000|[1-9][0-9]{0,2}))"));

    record Corner(long x, long y, long slip) {
    }

    record Run(int corner, boolean backward, long sum) {
    }

    record Point(long x, long y) {
    }

    /** A point of a step with the slip of the segment that leads to it. */
    record Stop(Point point, long slip) {
    }

    static final class State {
        long ax = 0;
        long ay = 0;
        long tolerance = 200;
        long[] settings = {1200, 1000, 50, 0, 50};
        List<Corner> corners = new ArrayList<>();
        List<Run> runs = new ArrayList<>();

        State copy() {
            State other = new State();
            other.ax = ax;
            other.ay = ay;
            other.tolerance = tolerance;
            other.settings = settings.clone();
            other.corners = new ArrayList<>(corners);
            other.runs = new ArrayList<>(runs);
            return other;
        }
    }

    State now = new State();
    final ArrayDeque<State> saved = new ArrayDeque<>();
    final StringBuilder buffer = new StringBuilder();
    long reason = 0;

    private void save() {
        saved.addLast(now.copy());
        if (saved.size() > 6) {
            saved.removeFirst();
        }
    }

    private static void argument(boolean holds) {
        if (!holds) {
            throw new IllegalArgumentException();
        }
    }

    private static void index(long i, long size) {
        if (i < 0 || i >= size) {
            throw new IndexOutOfBoundsException();
        }
    }

    private static void state(boolean holds) {
        if (!holds) {
            throw new IllegalStateException();
        }
    }

    private static void range(long value, long least, long greatest) {
        argument(least <= value && value <= greatest);
    }

    private int forgotten() {
        int n = now.runs.size();
        now.runs.clear();
        return n;
    }

    // ---- changes

    long setAnchor(int x, int y) {
        range(x, -2000, 2000);
        range(y, -2000, 2000);
        save();
        now.ax = x;
        now.ay = y;
        return forgotten();
    }

    long set(int setting, int value) {
        index(setting, 5);
        range(value, RANGES[setting][0], RANGES[setting][1]);
        save();
        long before = now.settings[setting];
        now.settings[setting] = value;
        forgotten();
        return before;
    }

    long setTolerance(int tolerance) {
        range(tolerance, 0, 100000);
        save();
        long before = now.tolerance;
        now.tolerance = tolerance;
        return before;
    }

    long insert(int k, int x, int y) {
        index(k, now.corners.size() + 1);
        range(x, -1000, 1000);
        range(y, -1000, 1000);
        state(now.corners.size() < 20);
        save();
        now.corners.add(k, new Corner(x, y, 0));
        forgotten();
        return now.corners.size();
    }

    long move(int k, int x, int y) {
        index(k, now.corners.size());
        range(x, -1000, 1000);
        range(y, -1000, 1000);
        save();
        now.corners.set(k, new Corner(x, y, now.corners.get(k).slip));
        return forgotten();
    }

    long remove(int k) {
        index(k, now.corners.size());
        save();
        now.corners.remove(k);
        forgotten();
        return now.corners.size();
    }

    long setSlip(int k, int slip) {
        index(k, now.corners.size());
        range(slip, 0, 100);
        save();
        Corner c = now.corners.get(k);
        now.corners.set(k, new Corner(c.x, c.y, slip));
        return c.slip;
    }

    long run(int corner, boolean backward) {
        index(corner, now.corners.size());
        reason = why(corner, backward);
        state(reason == 0);
        save();
        now.runs.add(new Run(corner, backward, sum(now, corner, backward)));
        return now.runs.size() - 1;
    }

    long runAll() {
        save();
        reason = 0;
        int before = now.runs.size();
        for (int k = 0; k < now.corners.size(); k++) {
            for (boolean backward : new boolean[] {false, true}) {
                reason = why(k, backward);
                if (reason != 0) {
                    return now.runs.size() - before;
                }
                now.runs.add(new Run(k, backward, sum(now, k, backward)));
            }
        }
        return now.runs.size() - before;
    }

    long forget() {
        save();
        return forgotten();
    }

    long append(int code) {
        range(code, 33, 126);
        state(buffer.length() < 60);
        buffer.append((char) code);
        return buffer.length();
    }

    long clearBuffer() {
        int length = buffer.length();
        buffer.setLength(0);
        return length;
    }

    /** An outline begins with a text if it can be ended by one of a few endings. */
    private static boolean beginsOutline(String text) {
        for (String number : new String[] {"", "0", "1"}) {
            for (String rest : new String[] {"", ",0"}) {
                for (String others : new String[] {"", ";0,0", ";0,0;0,0"}) {
                    if (OUTLINE.matcher(text + number + rest + others).matches()) {
                        return true;
                    }
                }
            }
        }
        return false;
    }

    long firstError() {
        for (int i = 0; i < buffer.length(); i++) {
            if (!beginsOutline(buffer.substring(0, i + 1))) {
                return i;
            }
        }
        return buffer.length();
    }

    long load() {
        argument(OUTLINE.matcher(buffer).matches());
        save();
        now.corners.clear();
        for (String corner : buffer.toString().split(";")) {
            String[] xy = corner.split(",");
            now.corners.add(new Corner(Long.parseLong(xy[0]), Long.parseLong(xy[1]), 0));
        }
        buffer.setLength(0);
        forgotten();
        return now.corners.size();
    }

    long undo() {
        state(!saved.isEmpty());
        now = saved.removeLast();
        return saved.size();
    }

    // ---- geometry

    static long root(long n) {
        return BigInteger.valueOf(n).sqrt().longValueExact();
    }

    private static long times(long a, long b) {
        return Math.multiplyExact(a, b);
    }

    static long turn(Point a, Point b, Point c) {
        return times(b.x - a.x, c.y - a.y) - times(b.y - a.y, c.x - a.x);
    }

    /** The elbow, or null if the point is not in reach. */
    static Point elbowAt(State s, Point tracer) {
        long dx = tracer.x - 16 * s.ax;
        long dy = tracer.y - 16 * s.ay;
        long d = Math.addExact(times(dx, dx), times(dy, dy));
        long p = 16 * s.settings[0];
        long l = 16 * s.settings[1];
        long r = root(d);
        if (!(r > 0 && r <= p + l && r >= Math.abs(p - l))) {
            return null;
        }
        long a = (d + p * p - l * l) / (2 * r);
        long b = p * p - a * a;
        if (b < 0) {
            b = 0;
        }
        long h = s.settings[3] == 1 ? -root(b) : root(b);
        return new Point(16 * s.ax + (times(dx, a) - times(dy, h)) / r, 16 * s.ay + (times(dy, a) + times(dx, h)) / r);
    }

    static long steps(State s, int k) {
        Corner from = s.corners.get(k);
        Corner to = s.corners.get((k + 1) % s.corners.size());
        long m = Math.max(Math.abs(from.x - to.x), Math.abs(from.y - to.y));
        long n = (m + s.settings[2] - 1) / s.settings[2];
        return n < 1 ? 1 : n;
    }

    static List<Point> points(State s, int k) {
        Corner from = s.corners.get(k);
        Corner to = s.corners.get((k + 1) % s.corners.size());
        long n = steps(s, k);
        List<Point> points = new ArrayList<>();
        for (long i = 0; i <= n; i++) {
            points.add(new Point(16 * from.x + 16 * (to.x - from.x) * i / n, 16 * from.y + 16 * (to.y - from.y) * i / n));
        }
        return points;
    }

    static boolean inReach(State s, int k) {
        for (Point p : points(s, k)) {
            if (elbowAt(s, p) == null) {
                return false;
            }
        }
        return true;
    }

    static boolean allInReach(State s) {
        for (int k = 0; k < s.corners.size(); k++) {
            if (!inReach(s, k)) {
                return false;
            }
        }
        return true;
    }

    static long swept(State s, Point t, Point u) {
        Point e = elbowAt(s, t);
        Point f = elbowAt(s, u);
        return turn(e, t, u) + turn(e, u, f);
    }

    static long roll(State s, int k) {
        if (!inReach(s, k)) {
            return 0;
        }
        List<Point> points = points(s, k);
        long sum = 0;
        for (int i = 1; i < points.size(); i++) {
            sum += swept(s, points.get(i - 1), points.get(i));
        }
        return sum;
    }

    /** The points of a run; the slip at each one is that of the segment that leads to it. */
    static List<Stop> stops(State s, int corner, boolean backward) {
        int n = s.corners.size();
        List<Stop> stops = new ArrayList<>();
        for (int j = 0; j < n; j++) {
            int k = backward ? Math.floorMod(corner - 1 - j, n) : (corner + j) % n;
            List<Point> points = points(s, k);
            for (int i = 0; i < points.size(); i++) {
                Point point = points.get(backward ? points.size() - 1 - i : i);
                if (i > 0 || j == 0) {
                    stops.add(new Stop(point, s.corners.get(k).slip));
                }
            }
        }
        return stops;
    }

    static long sum(State s, int corner, boolean backward) {
        List<Stop> stops = stops(s, corner, backward);
        long g = 512 * s.settings[4];
        long play = 0;
        long counted = 0;
        for (int i = 1; i < stops.size(); i++) {
            long q = swept(s, stops.get(i - 1).point, stops.get(i).point);
            play += q * (100 - stops.get(i).slip) / 100;
            long within = Math.max(0, Math.min(g, play));
            counted += play - within;
            play = within;
        }
        return backward ? -counted : counted;
    }

    static boolean onOutline(State s) {
        Point a = new Point(s.ax, s.ay);
        int n = s.corners.size();
        for (int k = 0; k < n; k++) {
            Corner from = s.corners.get(k);
            Corner to = s.corners.get((k + 1) % n);
            Point u = new Point(from.x, from.y);
            Point v = new Point(to.x, to.y);
            long dot = (a.x - u.x) * (a.x - v.x) + (a.y - u.y) * (a.y - v.y);
            if (turn(u, v, a) == 0 && dot <= 0) {
                return true;
            }
        }
        return false;
    }

    static long winding(State s) {
        int n = s.corners.size();
        long w = 0;
        for (int k = 0; k < n; k++) {
            Corner from = s.corners.get(k);
            Corner to = s.corners.get((k + 1) % n);
            long c = turn(new Point(from.x, from.y), new Point(to.x, to.y), new Point(s.ax, s.ay));
            if (from.y <= s.ay && to.y > s.ay && c > 0) {
                w++;
            } else if (from.y > s.ay && to.y <= s.ay && c < 0) {
                w--;
            }
        }
        return w;
    }

    static long constant(State s) {
        return winding(s) * (355 * s.settings[0] * s.settings[0] / 113);
    }

    static long twiceArea(State s) {
        int n = s.corners.size();
        long sum = 0;
        for (int k = 0; k < n; k++) {
            Corner from = s.corners.get(k);
            Corner to = s.corners.get((k + 1) % n);
            sum += from.x * to.y - to.x * from.y;
        }
        return sum;
    }

    static long area(State s, int run) {
        return s.runs.get(run).sum / 512 + constant(s);
    }

    /** The runs that are left, by their numbers. */
    static List<Integer> left(State s) {
        List<Integer> left = new ArrayList<>();
        for (int i = 0; i < s.runs.size(); i++) {
            left.add(i);
        }
        while (left.size() > 2) {
            long[] sorted = left.stream().mapToLong(i -> area(s, i)).sorted().toArray();
            long middle = sorted[(sorted.length - 1) / 2];
            int apart = 0;
            for (int i = 1; i < left.size(); i++) {
                if (Math.abs(area(s, left.get(i)) - middle) > Math.abs(area(s, left.get(apart)) - middle)) {
                    apart = i;
                }
            }
            if (Math.abs(area(s, left.get(apart)) - middle) <= s.tolerance) {
                break;
            }
            left.remove(apart);
        }
        return left;
    }

    static long mean(State s) {
        List<Integer> left = left(s);
        long sum = 0;
        for (int i : left) {
            sum += area(s, i);
        }
        return left.isEmpty() ? 0 : sum / left.size();
    }

    // ---- what there is

    long corner(int k, int what) {
        index(k, now.corners.size());
        range(what, 0, 5);
        Corner c = now.corners.get(k);
        long[] all = {c.x, c.y, c.slip, steps(now, k), roll(now, k), inReach(now, k) ? 1 : 0};
        return all[what];
    }

    long made(int run, int what) {
        index(run, now.runs.size());
        range(what, 0, 5);
        Run r = now.runs.get(run);
        long[] all = {r.corner, r.backward ? 1 : 0, r.sum, r.sum / (512 * now.settings[1]), area(now, run),
            left(now).contains(run) ? 0 : 1};
        return all[what];
    }

    long elbow(int tx, int ty, int what) {
        range(tx, -40000, 40000);
        range(ty, -40000, 40000);
        range(what, 0, 2);
        Point e = elbowAt(now, new Point(tx, ty));
        if (e == null) {
            return 0;
        }
        return what == 0 ? 1 : what == 1 ? e.x : e.y;
    }

    long count(int what) {
        range(what, 0, 14);
        long steps = 0;
        for (int k = 0; k < now.corners.size(); k++) {
            steps += steps(now, k);
        }
        long area = twiceArea(now) / 2;
        long difference = now.runs.isEmpty() ? 0 : mean(now) - area;
        long[] all = {now.corners.size(), now.runs.size(), now.ax, now.ay, now.tolerance, twiceArea(now), area,
            winding(now), constant(now), onOutline(now) ? 1 : 0, mean(now), now.runs.size() - left(now).size(),
            difference, steps, saved.size()};
        return all[what];
    }

    long setting(int setting) {
        index(setting, 5);
        return now.settings[setting];
    }

    long why(int corner, boolean backward) {
        index(corner, now.corners.size());
        return now.corners.size() < 3 ? 1 : onOutline(now) ? 2 : !allInReach(now) ? 3 : now.runs.size() >= 12 ? 4 : 0;
    }

    long ifSet(int corner, boolean backward, int setting, int value) {
        index(corner, now.corners.size());
        index(setting, 5);
        range(value, RANGES[setting][0], RANGES[setting][1]);
        State other = now.copy();
        other.settings[setting] = value;
        if (other.corners.size() < 3 || onOutline(other) || !allInReach(other)) {
            return 0;
        }
        return sum(other, corner, backward);
    }

    long leastArm() {
        for (int arm = 200; arm <= 3000 && !now.corners.isEmpty(); arm += 100) {
            State other = now.copy();
            other.settings[1] = arm;
            if (allInReach(other)) {
                return arm;
            }
        }
        return -1;
    }

    double error() {
        long area = count(6);
        return now.runs.isEmpty() || area == 0 ? 0.0 : (double) count(12) / (double) area;
    }

    long digest() {
        List<Long> values = new ArrayList<>();
        for (int i = 0; i < 15; i++) {
            values.add(count(i));
        }
        for (long setting : now.settings) {
            values.add(setting);
        }
        for (int i = 0; i < 6 * now.corners.size(); i++) {
            values.add(corner(i / 6, i % 6));
        }
        for (int i = 0; i < 6 * now.runs.size(); i++) {
            values.add(made(i / 6, i % 6));
        }
        values.add(leastArm());
        values.add(Double.doubleToLongBits(error()));
        values.add(reason);
        values.add((long) buffer.length());
        for (int i = 0; i < buffer.length(); i++) {
            values.add((long) buffer.charAt(i));
        }
        long hash = 2113;
        for (long v : values) {
            hash = 31 * hash + v;
        }
        return hash;
    }
}

/**
 * The edges that the document names in "The instrument", and in the promises of setAnchor, set,
 * setTolerance, elbow and setting. The numbers are worked out by the sentences, apart from the program.
 */
public final class InstrumentEdgesTest {
    private static final int[] AT_FIRST = {1200, 1000, 50, 0, 50};
    private static final int[] LEAST = {200, 200, 20, 0, 0};
    private static final int[] GREATEST = {3000, 3000, 200, 1, 10000};
    private static final int FAR = 40000;

    private InstrumentEdgesTest() {
    }

    public static void main(String[] args) {
        anchorAtFirst();
        anchorRange();
        anchorForgets();
        settingsAtFirst();
        settingsRange();
        settingsNumbers();
        setForgets();
        toleranceRange();
        toleranceForgetsNothing();
        fineUnits();
        rootAtSquares();
        rootOfTheHeight();
        reachAboveZero();
        reachAtMost();
        reachAtLeast();
        reachOfTheLongestArms();
        negativeSquareIsZero();
        truncatedAlong();
        truncatedElbow();
        otherSide();
        elbowRange();
        elbowWhat();
        elbowOutOfReachIsZero();
        Check.end();
    }

    private static PolarPlanimeter arms(int pole, int tracer) {
        PolarPlanimeter p = new PolarPlanimeter();
        p.set(Given.POLE, pole);
        p.set(Given.TRACER, tracer);
        return p;
    }

    private static void dueElbow(PolarPlanimeter p, int tx, int ty, long x, long y) {
        String at = "elbow(" + tx + ", " + ty + ", ";
        Check.due(at + "0)", 1, p.elbow(tx, ty, 0));
        Check.due(at + "1)", x, p.elbow(tx, ty, 1));
        Check.due(at + "2)", y, p.elbow(tx, ty, 2));
    }

    private static void dueNoElbow(PolarPlanimeter p, int tx, int ty) {
        for (int what = 0; what < 3; what++) {
            Check.due("elbow(" + tx + ", " + ty + ", " + what + ")", 0, p.elbow(tx, ty, what));
        }
    }

    private static void dueAnchor(PolarPlanimeter p, int x, int y) {
        Given.dueCount(p, 2, x);
        Given.dueCount(p, 3, y);
    }

    // ---- the anchor

    private static void anchorAtFirst() {
        Check.sentence("The anchor is .. at first (0, 0)");
        dueAnchor(new PolarPlanimeter(), 0, 0);
    }

    private static void anchorRange() {
        Check.sentence("x: -2000 to 2000, y: -2000 to 2000");
        PolarPlanimeter p = new PolarPlanimeter();
        int[][] edges = {{-2000, 7}, {2000, 8}, {9, -2000}, {10, 2000}, {-2000, -2000}, {2000, 2000}};
        for (int[] edge : edges) {
            p.setAnchor(edge[0], edge[1]);
            dueAnchor(p, edge[0], edge[1]);
        }
        int[][] outside = {{-2001, 0}, {2001, 0}, {0, -2001}, {0, 2001},
            {Given.MIN, 0}, {Given.MAX, 0}, {0, Given.MIN}, {0, Given.MAX}};
        for (int[] at : outside) {
            Check.argument("setAnchor(" + at[0] + ", " + at[1] + ")", () -> p.setAnchor(at[0], at[1]));
            dueAnchor(p, 2000, 2000);
        }
    }

    private static void anchorForgets() {
        Check.sentence("Returns how many runs are forgotten (also if the new value is the old one)");
        Check.due("setAnchor without corners and runs", 0, new PolarPlanimeter().setAnchor(1, 1));
        PolarPlanimeter full = Given.full();
        Check.due("setAnchor with 12 runs, to where it is", 12, full.setAnchor(0, 0));
        Given.dueCount(full, 1, 0);
        Check.due("setAnchor again", 0, full.setAnchor(0, 0));
    }

    // ---- the settings

    private static void settingsAtFirst() {
        Check.sentence("There are five settings .. at first ..");
        PolarPlanimeter p = new PolarPlanimeter();
        for (int i = 0; i < 5; i++) {
            Check.due("setting(" + i + ")", AT_FIRST[i], p.setting(i));
        }
    }

    private static void settingsRange() {
        for (int i = 0; i < 5; i++) {
            Check.sentence("setting " + i + ": " + LEAST[i] + " to " + GREATEST[i]);
            int setting = i;
            PolarPlanimeter p = new PolarPlanimeter();
            Check.due("set to the least one", AT_FIRST[i], p.set(i, LEAST[i]));
            Check.due("the least one", LEAST[i], p.setting(i));
            Check.due("set to the greatest one", LEAST[i], p.set(i, GREATEST[i]));
            Check.due("the greatest one", GREATEST[i], p.setting(i));
            for (int value : new int[] {LEAST[i] - 1, GREATEST[i] + 1, Given.MIN, Given.MAX}) {
                Check.argument("set to " + value, () -> p.set(setting, value));
                Check.due("what it was", GREATEST[i], p.setting(i));
            }
        }
    }

    private static void settingsNumbers() {
        Check.sentence("setting: 0 to 4");
        PolarPlanimeter p = new PolarPlanimeter();
        for (int setting : new int[] {-1, 5, Given.MIN, Given.MAX}) {
            Check.index("setting(" + setting + ")", () -> p.setting(setting));
            Check.index("set(" + setting + ", 200)", () -> p.set(setting, 200));
            Check.index("set(" + setting + ", -1), the value is wrong, too", () -> p.set(setting, -1));
        }
        Check.due("setting(0)", 1200, p.setting(0));
        Check.due("setting(4)", 50, p.setting(4));
    }

    private static void setForgets() {
        Check.sentence("They are forgotten when .. a setting .. changes (also if the new value is the old one)");
        for (int i = 0; i < 5; i++) {
            PolarPlanimeter p = Given.full();
            p.set(i, AT_FIRST[i]);
            Given.dueCount(p, 1, 0);
        }
    }

    private static void toleranceRange() {
        Check.sentence("tolerance: 0 to 100000, at first 200");
        PolarPlanimeter p = new PolarPlanimeter();
        Given.dueCount(p, 4, 200);
        Check.due("setTolerance(0)", 200, p.setTolerance(0));
        Given.dueCount(p, 4, 0);
        Check.due("setTolerance(100000)", 0, p.setTolerance(100000));
        Given.dueCount(p, 4, 100000);
        for (int tolerance : new int[] {-1, 100001, Given.MIN, Given.MAX}) {
            Check.argument("setTolerance(" + tolerance + ")", () -> p.setTolerance(tolerance));
            Given.dueCount(p, 4, 100000);
        }
    }

    private static void toleranceForgetsNothing() {
        Check.sentence("They are forgotten when the anchor, a setting, or the outline changes: not the tolerance");
        PolarPlanimeter p = Given.full();
        p.setTolerance(0);
        Given.dueCount(p, 1, 12);
    }

    // ---- the elbow

    private static void fineUnits() {
        Check.sentence("16 fine units are one unit");
        PolarPlanimeter p = arms(200, 200);
        dueElbow(p, 6400, 0, 3200, 0);
        dueNoElbow(p, 6401, 0);
        p.setAnchor(-1, 1);
        dueElbow(p, 6384, 16, 3184, 16);
        dueNoElbow(p, 6385, 16);
    }

    /** With arms of 201 and 200 the root has to be from 16 to 6416. */
    private static void rootAtSquares() {
        Check.sentence("the greatest whole number whose square is at most this number");
        PolarPlanimeter p = arms(201, 200);
        Check.due("D = 250 is below 16 * 16", 0, p.elbow(15, 5, 0));
        Check.due("D = 16 * 16", 1, p.elbow(16, 0, 0));
        Check.due("D = 6416 * 6416", 1, p.elbow(6416, 0, 0));
        Check.due("D = 6417 * 6417 - 1", 1, p.elbow(5972, 2348, 0));
        Check.due("D = 6417 * 6417", 0, p.elbow(6417, 0, 0));
    }

    /** On the axis the elbow is at (a, h). */
    private static void rootOfTheHeight() {
        Check.sentence("h the root of b");
        PolarPlanimeter p = arms(200, 200);
        // a = 0, b = 3200 * 3200
        dueElbow(p, 1, 0, 0, 3200);
        // a = 1, b = 3200 * 3200 - 1
        dueElbow(p, 2, 0, 1, 3199);
    }

    private static void reachAboveZero() {
        Check.sentence("The point is in reach if r is above 0");
        PolarPlanimeter p = arms(1000, 1000);
        dueNoElbow(p, 0, 0);
        dueElbow(p, 1, 0, 0, 16000);
        dueElbow(p, 0, -1, 16000, 0);
        p.setAnchor(5, -6);
        dueNoElbow(p, 80, -96);
        dueElbow(p, 81, -96, 80, 15904);
    }

    private static void reachAtMost() {
        Check.sentence("r is at most p + l");
        PolarPlanimeter p = new PolarPlanimeter();
        // a = 19199, b = 38399
        dueElbow(p, 35199, 0, 19199, 195);
        dueElbow(p, 35200, 0, 19200, 0);
        dueNoElbow(p, 35201, 0);
        dueElbow(p, 0, -35200, 0, -19200);
        dueNoElbow(p, 0, -35201);
    }

    private static void reachAtLeast() {
        Check.sentence("r is at least the absolute value of p - l");
        PolarPlanimeter longPole = arms(1200, 1000);
        dueElbow(longPole, 3200, 0, 19200, 0);
        dueNoElbow(longPole, 3199, 0);
        PolarPlanimeter longTracer = arms(1000, 1200);
        dueElbow(longTracer, 3200, 0, -16000, 0);
        dueNoElbow(longTracer, 3199, 0);
    }

    /** D is some 9 * 10 ^ 9: its root is 95999, 96000, and 96001. */
    private static void reachOfTheLongestArms() {
        Check.sentence("All numbers are integers, exactly (many are greater than an int): D");
        PolarPlanimeter p = arms(3000, 3000);
        p.setAnchor(-2000, -2000);
        dueElbow(p, FAR, 31498, 4000, -251);
        dueElbow(p, FAR, 31499, 4000, -251);
        dueNoElbow(p, FAR, 31500);
    }

    /** D is 17 * 17 - 1 with r = 16, and 6417 * 6417 - 1 with r = 6416: a = 3217 is greater than p. */
    private static void negativeSquareIsZero() {
        Check.sentence("b = p * p - a * a, or 0 if this is negative");
        for (int side = 0; side < 2; side++) {
            PolarPlanimeter p = arms(201, 200);
            p.set(Given.SIDE, side);
            dueElbow(p, 12, 12, 2412, 2412);
            dueElbow(p, 5972, 2348, 2994, 1177);
        }
    }

    /** (5001 * 5001 + 16000 * 16000 - 19200 * 19200) / (2 * 5001) is -8761 and a part. */
    private static void truncatedAlong() {
        Check.sentence("divisions are truncated toward 0: a");
        dueElbow(arms(1000, 1200), 5001, 0, -8761, 13388);
    }

    private static void truncatedElbow() {
        Check.sentence("divisions are truncated toward 0: the elbow");
        PolarPlanimeter p = new PolarPlanimeter();
        dueElbow(p, 12345, -6789, 17245, 8442);
        dueElbow(p, -12345, 6789, -17245, -8442);
        dueElbow(p, -12345, -6789, -2106, -19084);
    }

    private static void otherSide() {
        Check.sentence("with the other sign if the side is 1");
        PolarPlanimeter p = new PolarPlanimeter();
        // p = 19200, l = 16000, r = 16000: a = 11520, h = 15360
        dueElbow(p, 16000, 0, 11520, 15360);
        p.set(Given.SIDE, 1);
        dueElbow(p, 16000, 0, 11520, -15360);
        dueElbow(p, -12345, 6789, -2106, 19084);
    }

    private static void elbowRange() {
        Check.sentence("tx: -40000 to 40000, ty: -40000 to 40000");
        PolarPlanimeter p = arms(3000, 3000);
        // p = l = 48000: a = 20000, h = 43634
        dueElbow(p, FAR, 0, 20000, 43634);
        dueElbow(p, -FAR, 0, -20000, -43634);
        dueElbow(p, 0, FAR, -43634, 20000);
        dueElbow(p, 0, -FAR, 43634, -20000);
        int[][] outside = {{FAR + 1, 0}, {-FAR - 1, 0}, {0, FAR + 1}, {0, -FAR - 1},
            {Given.MIN, 0}, {Given.MAX, 0}, {0, Given.MIN}, {0, Given.MAX}};
        for (int[] at : outside) {
            for (int what = 0; what < 3; what++) {
                int number = what;
                Check.argument("elbow(" + at[0] + ", " + at[1] + ", " + what + ")", () -> p.elbow(at[0], at[1], number));
            }
        }
    }

    private static void elbowWhat() {
        Check.sentence("what: 0: 1 if it is in reach, else 0; 1: .. x; 2: its y");
        PolarPlanimeter p = new PolarPlanimeter();
        for (int what : new int[] {-1, 3, Given.MIN, Given.MAX}) {
            Check.argument("elbow(16000, 0, " + what + ")", () -> p.elbow(16000, 0, what));
            Check.argument("elbow(0, 0, " + what + ")", () -> p.elbow(0, 0, what));
        }
        dueElbow(p, 16000, 0, 11520, 15360);
    }

    /** Looked at behind a point in reach, and with an anchor that is not at (0, 0). */
    private static void elbowOutOfReachIsZero() {
        Check.sentence("1 and 2 are 0 if it is not in reach");
        PolarPlanimeter p = new PolarPlanimeter();
        p.setAnchor(100, 200);
        Check.due("a point in reach", 1, p.elbow(17600, 3200, 0));
        dueNoElbow(p, 1600, 3200);
        dueNoElbow(p, FAR, FAR);
        dueNoElbow(p, -FAR, -FAR);
    }
}

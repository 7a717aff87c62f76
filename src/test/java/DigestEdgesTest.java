import java.math.BigInteger;
import java.util.ArrayList;
import java.util.List;

/** The edges that the document names in the promise of digest. */
public final class DigestEdgesTest {
    private static final BigInteger MOST = BigInteger.valueOf(Long.MAX_VALUE);
    private static final BigInteger LEAST = BigInteger.valueOf(Long.MIN_VALUE);

    private DigestEdgesTest() {
    }

    public static void main(String[] args) {
        ofNewObject();
        overflowAbove();
        overflowBelow();
        ofCorners();
        ofRuns();
        ofEmptyAndFullBuffer();
        ofReasons();
        ofSavedStates();
        ofLeastArm();
        ofErrors();
        ofFull();
        changesNothing();
        Check.end();
    }

    private static List<Long> list(long... values) {
        List<Long> list = new ArrayList<>();
        for (long value : values) {
            list.add(value);
        }
        return list;
    }

    private static void dueDigest(PolarPlanimeter p, long... values) {
        Check.due("digest()", Given.hash(list(values)), p.digest());
    }

    private static void ofNewObject() {
        Check.sentence("The hash starts at 2113: nothing there yet");
        dueDigest(new PolarPlanimeter(), 0, 0, 0, 0, 200, 0, 0, 0, 0, 0, 0, 0, 0, 0, 0,
                1200, 1000, 50, 0, 50, -1, 0, 0, 0);
        Check.due("digest() worked out", -200459291382882106L, new PolarPlanimeter().digest());
    }

    private static void overflowAbove() {
        Check.sentence("in long arithmetic with overflow");
        PolarPlanimeter p = new PolarPlanimeter();
        List<Long> values = Given.values(p, 0, "");
        BigInteger whole = Given.wholeHash(values);
        Check.due("is it more than a long", 1, whole.compareTo(MOST) > 0 ? 1 : 0);
        Check.due("digest()", whole.longValue(), p.digest());
    }

    /** The bits of -1.0 come near the end of the list, but what is before them overflows, too. */
    private static void overflowBelow() {
        Check.sentence("in long arithmetic with overflow: v is negative, and near the least long");
        PolarPlanimeter p = Given.loaded("300,300;302,300;300,301");
        for (int k = 0; k < 3; k++) {
            p.setSlip(k, 100);
        }
        p.run(0, false);
        List<Long> values = Given.values(p, 0, "");
        long bits = values.get(values.size() - 3);
        Check.due("the bits of -1.0", 0xBFF0000000000000L, bits);
        Check.due("is it near the least long", 1, BigInteger.valueOf(bits).subtract(LEAST).bitLength() < 63 ? 1 : 0);
        Check.due("digest()", Given.hash(values), p.digest());
    }

    private static void ofCorners() {
        Check.sentence("for each corner its properties 0 to 5: one, none");
        PolarPlanimeter p = new PolarPlanimeter();
        p.insert(0, 1000, -5);
        p.setSlip(0, 9);
        dueDigest(p, 1, 0, 0, 0, 200, 0, 0, 0, 0, 0, 0, 0, 0, 1, 2, 1200, 1000, 50, 0, 50,
                1000, -5, 9, 1, 0, 1, 200, 0, 0, 0);
        p.remove(0);
        dueDigest(p, 0, 0, 0, 0, 200, 0, 0, 0, 0, 0, 0, 0, 0, 0, 3, 1200, 1000, 50, 0, 50, -1, 0, 0, 0);
    }

    private static void ofRuns() {
        Check.sentence("for each run its properties 0 to 5");
        PolarPlanimeter p = Given.loaded("300,300;300,300;300,300");
        p.run(2, true);
        p.run(1, false);
        dueDigest(p, 3, 2, 0, 0, 200, 0, 0, 0, 0, 0, 0, 0, 0, 3, 3, 1200, 1000, 50, 0, 50,
                300, 300, 0, 1, 0, 1, 300, 300, 0, 1, 0, 1, 300, 300, 0, 1, 0, 1,
                2, 1, 0, 0, 0, 0, 1, 0, 0, 0, 0, 0, 800, 0, 0, 0);
    }

    private static void ofEmptyAndFullBuffer() {
        Check.sentence("the length of the buffer and each of its character codes");
        String text = "!~0123456789-,;ABCDEFGHIJKLMNOPQRSTUVWXYZabcdefghijklmnopqrs";
        for (int length : new int[] {0, 1, 2, 30, 59, 60}) {
            String beginning = text.substring(0, length);
            PolarPlanimeter p = new PolarPlanimeter();
            Given.write(p, beginning);
            Check.due("digest() with " + length, Given.hash(Given.values(p, 0, beginning)), p.digest());
            p.clearBuffer();
            Check.due("digest() of the cleared one", Given.hash(Given.values(p, 0, "")), p.digest());
        }
    }

    private static void ofReasons() {
        Check.sentence("reason");
        PolarPlanimeter p = new PolarPlanimeter();
        p.insert(0, 0, 0);
        p.runAll();
        Check.due("digest() with the reason 1", Given.hash(Given.values(p, 1, "")), p.digest());
        PolarPlanimeter full = Given.full();
        full.clearBuffer();
        Check.due("digest() with the reason 4", Given.hash(Given.values(full, 4, "")), full.digest());
    }

    private static void ofSavedStates() {
        Check.sentence("count(0) to count(14): saved states, none and 6");
        PolarPlanimeter p = new PolarPlanimeter();
        for (int i = 1; i <= 7; i++) {
            p.setTolerance(200);
        }
        dueDigest(p, 0, 0, 0, 0, 200, 0, 0, 0, 0, 0, 0, 0, 0, 0, 6, 1200, 1000, 50, 0, 50, -1, 0, 0, 0);
        p.undo();
        dueDigest(p, 0, 0, 0, 0, 200, 0, 0, 0, 0, 0, 0, 0, 0, 0, 5, 1200, 1000, 50, 0, 50, -1, 0, 0, 0);
    }

    private static void ofLeastArm() {
        Check.sentence("leastArm: NONE, 200 and 3000");
        int[][] due = {{1200, 0, 0, -1}, {1200, 1000, 0, 200}, {3000, 0, 1, 3000}};
        for (int[] row : due) {
            PolarPlanimeter p = new PolarPlanimeter();
            p.set(Given.POLE, row[0]);
            p.insert(0, row[1], row[2]);
            List<Long> values = Given.values(p, 0, "");
            Check.due("leastArm() in the list", row[3], values.get(values.size() - 4));
            Check.due("digest()", Given.hash(values), p.digest());
        }
    }

    private static void dueError(String outline, int pole, int tracer, double error) {
        PolarPlanimeter p = Given.lost(outline, pole, tracer);
        p.run(0, false);
        List<Long> values = Given.values(p, 0, "");
        Check.due("the bits of " + error, Double.doubleToLongBits(error), values.get(values.size() - 3));
        Check.due("digest() with the error " + error, Given.hash(values), p.digest());
    }

    private static void ofErrors() {
        Check.sentence("the bits of error (as Double.doubleToLongBits)");
        dueError("-64,-281;64,-281;64,281;-64,281", 214, 214, 1.0);
        dueError("-51,-239;51,-239;51,240;-51,240", 216, 216, 2.0);
        dueError("-51,-479;51,-479;51,479;-51,479", 216, 266, 0.5);
        dueError("-153,-239;153,-239;153,240;-153,240", 216, 216, 0.0);
        dueError("-153,240;153,240;153,-239;-153,-239", 216, 216, -0.0);
        dueError("300,300;700,300;700,600;300,600", 1200, 1000, -1.0);
        dueError("300,300;302,300;301,301", 1200, 1000, -1.0);
        dueError("300,300;301,301;302,300", 1200, 1000, -1.0);
        dueError("51,-239;-51,-239;-51,240;51,240", 216, 216, 2.0);
    }

    private static void ofFull() {
        Check.sentence("the whole state: 20 corners, 12 runs, 60 characters, 6 saved states");
        PolarPlanimeter p = Given.full();
        Check.due("digest()", Given.hash(Given.values(p, 4, Given.FULL_TEXT)), p.digest());
        Check.due("the length", 60, Given.FULL_TEXT.length());
    }

    private static void changesNothing() {
        Check.sentence("what would be; nothing is changed: digest");
        PolarPlanimeter p = Given.full();
        Check.due("digest() again", p.digest(), p.digest());
        Given.dueSame("after it", p, Given::full, 4, Given.FULL_TEXT);
    }
}

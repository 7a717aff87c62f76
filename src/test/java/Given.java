import java.math.BigInteger;
import java.util.ArrayList;
import java.util.List;
import java.util.function.Supplier;

/** Instruments that several tests begin with, and what can be seen of an instrument. */
final class Given {
    static final int MIN = Integer.MIN_VALUE;
    static final int MAX = Integer.MAX_VALUE;
    static final int POLE = 0;
    static final int TRACER = 1;
    static final int STEP = 2;
    static final int SIDE = 3;
    static final int PLAY = 4;
    private static final BigInteger HASH_FACTOR = BigInteger.valueOf(31);

    private Given() {
    }

    static void write(PolarPlanimeter p, String text) {
        for (int i = 0; i < text.length(); i++) {
            p.append(text.charAt(i));
        }
    }

    static PolarPlanimeter loaded(String text) {
        PolarPlanimeter p = new PolarPlanimeter();
        write(p, text);
        p.load();
        return p;
    }

    /** So many corners from left to right, all in reach of the arm as it is at first. */
    static PolarPlanimeter corners(int n) {
        PolarPlanimeter p = new PolarPlanimeter();
        for (int i = 0; i < n; i++) {
            p.insert(i, 400 + 20 * i, 300 + i % 2);
        }
        return p;
    }

    /** A counterclockwise rectangle of 400 by 300 that the anchor is outside of. */
    static PolarPlanimeter rectangle() {
        return loaded("300,300;700,300;700,600;300,600");
    }

    /** A counterclockwise square around the anchor, all in reach. */
    static PolarPlanimeter around() {
        return loaded("-900,-900;900,-900;900,900;-900,900");
    }

    /** A triangle whose segments are followed in one step each. */
    static PolarPlanimeter small(String text) {
        PolarPlanimeter p = loaded(text);
        p.set(STEP, 200);
        return p;
    }

    /** All is lost by the slips, so that the area of a run is the constant alone. */
    static PolarPlanimeter lost(String text, int pole, int tracer) {
        PolarPlanimeter p = loaded(text);
        p.set(POLE, pole);
        p.set(TRACER, tracer);
        for (int k = 0; k < p.count(0); k++) {
            p.setSlip(k, 100);
        }
        return p;
    }

    /** 20 corners, 12 runs, 60 characters, 6 saved states, and the reason 4. */
    static PolarPlanimeter full() {
        PolarPlanimeter p = corners(20);
        p.setSlip(19, 30);
        p.setSlip(0, 100);
        p.runAll();
        write(p, FULL_TEXT);
        return p;
    }

    /** A syntax error stands in it at its end. */
    static final String FULL_TEXT = "1,2;-3,4;5,-6;7,8;9,10;11,12;13,14;15,16;17,18;19,20;21,222,";

    /** Everything is other than it is at first; nothing is full but the saved states. */
    static PolarPlanimeter used() {
        PolarPlanimeter p = rectangle();
        p.setAnchor(-10, 20);
        p.set(POLE, 1100);
        p.set(TRACER, 1050);
        p.set(STEP, 40);
        p.set(SIDE, 1);
        p.set(PLAY, 60);
        p.setTolerance(70);
        for (int k = 0; k < 4; k++) {
            p.setSlip(k, k + 1);
        }
        p.run(1, false);
        p.run(2, true);
        write(p, USED_TEXT);
        return p;
    }

    static final String USED_TEXT = "12,-3;";

    static void dueCorner(PolarPlanimeter p, int k, int x, int y, int slip) {
        Check.due("the x of corner " + k, x, p.corner(k, 0));
        Check.due("the y of corner " + k, y, p.corner(k, 1));
        Check.due("the slip of segment " + k, slip, p.corner(k, 2));
    }

    static void dueCount(PolarPlanimeter p, int what, long want) {
        Check.due("count(" + what + ")", want, p.count(what));
    }

    /** The list that digest hashes, as the other methods answer it; reason and text are what is due. */
    static List<Long> values(PolarPlanimeter p, int reason, String text) {
        List<Long> values = new ArrayList<>();
        for (int i = 0; i < 15; i++) {
            values.add(p.count(i));
        }
        for (int i = 0; i < 5; i++) {
            values.add((long) p.setting(i));
        }
        long corners = p.count(0);
        for (int i = 0; i < 6 * corners; i++) {
            values.add(p.corner(i / 6, i % 6));
        }
        long runs = p.count(1);
        for (int i = 0; i < 6 * runs; i++) {
            values.add(p.made(i / 6, i % 6));
        }
        values.add((long) p.leastArm());
        values.add(Double.doubleToLongBits(p.error()));
        values.add((long) reason);
        values.add((long) text.length());
        for (int i = 0; i < text.length(); i++) {
            values.add((long) text.charAt(i));
        }
        return values;
    }

    /** The hash as it is before anything is cut off. */
    static BigInteger wholeHash(List<Long> values) {
        BigInteger hash = BigInteger.valueOf(2113);
        for (long value : values) {
            hash = hash.multiply(HASH_FACTOR).add(BigInteger.valueOf(value));
        }
        return hash;
    }

    static long hash(List<Long> values) {
        return wholeHash(values).longValue();
    }

    /**
     * What can be seen is the same as of a twin, with all that undo brings back, but for the reason and
     * the text, which are told. Undoes everything. A new twin is asked each time, since an object is
     * promised 512 calls alone.
     */
    static void dueSame(String when, PolarPlanimeter got, Supplier<PolarPlanimeter> twins, int reason, String text) {
        Check.due(when + ", reason()", reason, got.reason());
        String seen = values(twins.get(), reason, text).toString();
        Check.same(when + ", what can be seen", seen, values(got, reason, text).toString());
        long saved = twins.get().count(14);
        for (int undone = 0; undone <= saved; undone++) {
            Check.due(when + ", digest(), undone " + undone, hash(values(undone(twins, undone), reason, text)), got.digest());
            if (undone < saved) {
                Check.due(when + ", undo()", saved - undone - 1, got.undo());
            }
        }
        Check.state(when + ", undo() of a state that is not saved", () -> got.undo());
        Check.due(when + ", clearBuffer()", text.length(), got.clearBuffer());
    }

    private static PolarPlanimeter undone(Supplier<PolarPlanimeter> twins, int times) {
        PolarPlanimeter p = twins.get();
        for (int i = 0; i < times; i++) {
            p.undo();
        }
        return p;
    }
}

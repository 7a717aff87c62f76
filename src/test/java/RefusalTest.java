import java.util.function.Consumer;
import java.util.function.Supplier;

/**
 * Each call that is refused throws the exception that the document names first, and leaves everything
 * as it was but the latest reason, where it is told: the same is seen as of a twin that was not called,
 * with all that undo brings back.
 */
public final class RefusalTest {
    private static final Class<?> INDEX = IndexOutOfBoundsException.class;
    private static final Class<?> ARGUMENT = IllegalArgumentException.class;
    private static final Class<?> STATE = IllegalStateException.class;
    private static final int MIN = Given.MIN;
    private static final int MAX = Given.MAX;

    private final String name;
    private final Supplier<PolarPlanimeter> twins;
    private final int reason;
    private final String text;

    /** A state to call in, with the latest reason and the text in it. */
    private RefusalTest(String name, Supplier<PolarPlanimeter> twins, int reason, String text) {
        this.name = name;
        this.twins = twins;
        this.reason = reason;
        this.text = text;
    }

    public static void main(String[] args) {
        RefusalTest empty = new RefusalTest("a new object", PolarPlanimeter::new, 0, "");
        RefusalTest used = new RefusalTest("a used object", Given::used, 0, Given.USED_TEXT);
        RefusalTest full = new RefusalTest("a full object", Given::full, 4, Given.FULL_TEXT);
        for (RefusalTest state : new RefusalTest[] {empty, used, full}) {
            state.instrument();
            state.settingBeforeValue();
            state.cornersOutside();
            state.texts();
            state.looks();
        }
        empty.nothingThere();
        used.fourCornersAndTwoRuns();
        full.allFull();
        refusedRuns();
        Check.end();
    }

    private void refused(String call, Class<?> due, Consumer<PolarPlanimeter> made) {
        refused(call, due, reason, made);
    }

    private void refused(String call, Class<?> due, int dueReason, Consumer<PolarPlanimeter> made) {
        Check.sentence("A call that throws an exception changes nothing: " + call + " of " + name);
        PolarPlanimeter p = twins.get();
        Check.thrown(call, due, () -> made.accept(p));
        Given.dueSame("after it", p, twins, dueReason, text);
    }

    // ---- in each state

    private void instrument() {
        for (int wrong : new int[] {-2001, 2001, MIN, MAX}) {
            refused("setAnchor(" + wrong + ", 0)", ARGUMENT, p -> p.setAnchor(wrong, 0));
            refused("setAnchor(0, " + wrong + ")", ARGUMENT, p -> p.setAnchor(0, wrong));
        }
        for (int wrong : new int[] {-1, 100001, MIN, MAX}) {
            refused("setTolerance(" + wrong + ")", ARGUMENT, p -> p.setTolerance(wrong));
        }
        int[][] wrong = {{199, 3001}, {199, 3001}, {19, 201}, {-1, 2}, {-1, 10001}};
        for (int i = 0; i < 5; i++) {
            int setting = i;
            int below = wrong[i][0];
            int above = wrong[i][1];
            refused("set(" + i + ", " + below + ")", ARGUMENT, p -> p.set(setting, below));
            refused("set(" + i + ", " + above + ")", ARGUMENT, p -> p.set(setting, above));
        }
    }

    private void settingBeforeValue() {
        for (int wrong : new int[] {-1, 5, MIN, MAX}) {
            refused("set(" + wrong + ", 200)", INDEX, p -> p.set(wrong, 200));
            refused("set(" + wrong + ", -1)", INDEX, p -> p.set(wrong, -1));
            refused("setting(" + wrong + ")", INDEX, p -> p.setting(wrong));
        }
    }

    private void cornersOutside() {
        for (int wrong : new int[] {-1, 21, MIN, MAX}) {
            refused("insert(" + wrong + ", 0, 0)", INDEX, p -> p.insert(wrong, 0, 0));
            refused("insert(" + wrong + ", 1001, 0)", INDEX, p -> p.insert(wrong, 1001, 0));
            refused("move(" + wrong + ", 0, 0)", INDEX, p -> p.move(wrong, 0, 0));
            refused("move(" + wrong + ", 0, 1001)", INDEX, p -> p.move(wrong, 0, 1001));
            refused("remove(" + wrong + ")", INDEX, p -> p.remove(wrong));
            refused("setSlip(" + wrong + ", 0)", INDEX, p -> p.setSlip(wrong, 0));
            refused("setSlip(" + wrong + ", 101)", INDEX, p -> p.setSlip(wrong, 101));
            refused("run(" + wrong + ", true)", INDEX, p -> p.run(wrong, true));
            refused("why(" + wrong + ", true)", INDEX, p -> p.why(wrong, true));
            refused("ifSet(" + wrong + ", true, 0, 200)", INDEX, p -> p.ifSet(wrong, true, 0, 200));
            refused("corner(" + wrong + ", 0)", INDEX, p -> p.corner(wrong, 0));
            refused("corner(" + wrong + ", 6)", INDEX, p -> p.corner(wrong, 6));
            refused("made(" + wrong + ", 0)", INDEX, p -> p.made(wrong, 0));
            refused("made(" + wrong + ", 6)", INDEX, p -> p.made(wrong, 6));
        }
        for (int wrong : new int[] {-1001, 1001, MIN, MAX}) {
            refused("insert(0, " + wrong + ", 0)", ARGUMENT, p -> p.insert(0, wrong, 0));
            refused("insert(0, 0, " + wrong + ")", ARGUMENT, p -> p.insert(0, 0, wrong));
        }
    }

    private void texts() {
        for (int wrong : new int[] {32, 127, MIN, MAX}) {
            refused("append(" + wrong + ")", ARGUMENT, p -> p.append(wrong));
        }
        refused("load()", ARGUMENT, p -> p.load());
    }

    private void looks() {
        for (int wrong : new int[] {-1, 15, MIN, MAX}) {
            refused("count(" + wrong + ")", ARGUMENT, p -> p.count(wrong));
        }
        for (int wrong : new int[] {-40001, 40001, MIN, MAX}) {
            refused("elbow(" + wrong + ", 0, 0)", ARGUMENT, p -> p.elbow(wrong, 0, 0));
            refused("elbow(0, " + wrong + ", 0)", ARGUMENT, p -> p.elbow(0, wrong, 0));
        }
        for (int wrong : new int[] {-1, 3, MIN, MAX}) {
            refused("elbow(16000, 0, " + wrong + ")", ARGUMENT, p -> p.elbow(16000, 0, wrong));
        }
    }

    // ---- in one state

    private void nothingThere() {
        refused("undo()", STATE, p -> p.undo());
        refused("insert(1, 0, 0)", INDEX, p -> p.insert(1, 0, 0));
        refused("move(0, 0, 0)", INDEX, p -> p.move(0, 0, 0));
        refused("remove(0)", INDEX, p -> p.remove(0));
        refused("setSlip(0, 0)", INDEX, p -> p.setSlip(0, 0));
        refused("run(0, false)", INDEX, p -> p.run(0, false));
        refused("why(0, false)", INDEX, p -> p.why(0, false));
        refused("ifSet(0, false, 0, 200)", INDEX, p -> p.ifSet(0, false, 0, 200));
        refused("corner(0, 0)", INDEX, p -> p.corner(0, 0));
        refused("made(0, 0)", INDEX, p -> p.made(0, 0));
    }

    private void fourCornersAndTwoRuns() {
        refused("insert(5, 0, 0)", INDEX, p -> p.insert(5, 0, 0));
        refused("move(4, 0, 0)", INDEX, p -> p.move(4, 0, 0));
        refused("remove(4)", INDEX, p -> p.remove(4));
        refused("setSlip(4, 0)", INDEX, p -> p.setSlip(4, 0));
        refused("run(4, false)", INDEX, p -> p.run(4, false));
        refused("why(4, false)", INDEX, p -> p.why(4, false));
        refused("corner(4, 0)", INDEX, p -> p.corner(4, 0));
        refused("made(2, 0)", INDEX, p -> p.made(2, 0));
        argumentsOfCorner(3);
        argumentsOfRun(1);
    }

    private void allFull() {
        refused("insert(20, 0, 0)", STATE, p -> p.insert(20, 0, 0));
        refused("insert(0, 0, 0)", STATE, p -> p.insert(0, 0, 0));
        refused("insert(20, 1001, 0)", ARGUMENT, p -> p.insert(20, 1001, 0));
        refused("move(20, 0, 0)", INDEX, p -> p.move(20, 0, 0));
        refused("remove(20)", INDEX, p -> p.remove(20));
        refused("setSlip(20, 0)", INDEX, p -> p.setSlip(20, 0));
        refused("run(20, false)", INDEX, p -> p.run(20, false));
        refused("run(19, false)", STATE, p -> p.run(19, false));
        refused("why(20, false)", INDEX, p -> p.why(20, false));
        refused("corner(20, 0)", INDEX, p -> p.corner(20, 0));
        refused("made(12, 0)", INDEX, p -> p.made(12, 0));
        refused("append(33)", STATE, p -> p.append(33));
        argumentsOfCorner(19);
        argumentsOfRun(11);
    }

    private void argumentsOfCorner(int k) {
        for (int wrong : new int[] {-1001, 1001, MIN, MAX}) {
            refused("move(" + k + ", " + wrong + ", 0)", ARGUMENT, p -> p.move(k, wrong, 0));
            refused("move(" + k + ", 0, " + wrong + ")", ARGUMENT, p -> p.move(k, 0, wrong));
        }
        for (int wrong : new int[] {-1, 101, MIN, MAX}) {
            refused("setSlip(" + k + ", " + wrong + ")", ARGUMENT, p -> p.setSlip(k, wrong));
        }
        for (int wrong : new int[] {-1, 6, MIN, MAX}) {
            refused("corner(" + k + ", " + wrong + ")", ARGUMENT, p -> p.corner(k, wrong));
        }
        for (int wrong : new int[] {-1, 5, MIN, MAX}) {
            refused("ifSet(" + k + ", false, " + wrong + ", -1)", INDEX, p -> p.ifSet(k, false, wrong, -1));
        }
        int[][] wrong = {{199, 3001}, {199, 3001}, {19, 201}, {-1, 2}, {-1, 10001}};
        for (int i = 0; i < 5; i++) {
            int setting = i;
            for (int value : wrong[i]) {
                refused("ifSet(" + k + ", true, " + i + ", " + value + ")", ARGUMENT, p -> p.ifSet(k, true, setting, value));
            }
        }
    }

    private void argumentsOfRun(int run) {
        for (int wrong : new int[] {-1, 6, MIN, MAX}) {
            refused("made(" + run + ", " + wrong + ")", ARGUMENT, p -> p.made(run, wrong));
        }
    }

    // ---- refused runs, which change the latest reason

    private static PolarPlanimeter anchored(int x, int y) {
        PolarPlanimeter p = Given.rectangle();
        p.setSlip(2, 7);
        p.run(0, false);
        p.setAnchor(x, y);
        Given.write(p, "1,");
        return p;
    }

    private static PolarPlanimeter twelve() {
        PolarPlanimeter p = Given.corners(6);
        p.runAll();
        Given.write(p, "1,");
        return p;
    }

    private static PolarPlanimeter twoCorners() {
        PolarPlanimeter p = Given.corners(2);
        Given.write(p, "1,");
        return p;
    }

    private static void refusedRuns() {
        new RefusalTest("two corners", RefusalTest::twoCorners, 0, "1,")
                .refused("run(1, true)", STATE, 1, p -> p.run(1, true));
        new RefusalTest("the anchor on the outline", () -> anchored(300, 450), 0, "1,")
                .refused("run(3, false)", STATE, 2, p -> p.run(3, false));
        new RefusalTest("an outline out of reach", () -> anchored(-2000, 0), 0, "1,")
                .refused("run(0, true)", STATE, 3, p -> p.run(0, true));
        new RefusalTest("12 runs", RefusalTest::twelve, 0, "1,")
                .refused("run(5, true)", STATE, 4, p -> p.run(5, true));
    }
}

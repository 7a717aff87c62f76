/**
 * The edges that the document names in "The outline", and in the promises of insert, move, remove,
 * setSlip and corner; with the area of the outline.
 */
public final class OutlineEdgesTest {
    private static final int[][] OUTSIDE = {{-1001, 0}, {1001, 0}, {0, -1001}, {0, 1001},
        {Given.MIN, 0}, {Given.MAX, 0}, {0, Given.MIN}, {0, Given.MAX}};
    private static final int[][] INSIDE = {{-1000, 3}, {1000, 4}, {5, -1000}, {6, 1000}, {-1000, -1000}, {1000, 1000}};

    private OutlineEdgesTest() {
    }

    public static void main(String[] args) {
        noOutlineAtFirst();
        atMostTwentyCorners();
        insertPlaces();
        insertPlacesInFull();
        insertRange();
        insertDividesASegment();
        insertDividesTheLastSegment();
        insertForgets();
        moveRange();
        moveNumbers();
        moveKeepsSlip();
        moveForgets();
        removeNumbers();
        removeTakesSlip();
        removeForgets();
        slipRange();
        slipNumbers();
        slipForgetsNothing();
        cornerNumbers();
        lastSegmentGoesToFirst();
        oneCorner();
        sameCorners();
        leastSteps();
        stepsOfTheGreaterDifference();
        mostSteps();
        stepsOfTheLastSegment();
        truncatedPoints();
        rollOutOfReach();
        rollWithoutSlipAndPlay();
        truncatedArea();
        noArea();
        greatestArea();
        Check.end();
    }

    // ---- corners

    private static void noOutlineAtFirst() {
        Check.sentence("without an outline");
        PolarPlanimeter p = new PolarPlanimeter();
        for (int what : new int[] {0, 5, 6, 7, 8, 9, 13}) {
            Given.dueCount(p, what, 0);
        }
        Check.index("corner(0, 0)", () -> p.corner(0, 0));
    }

    private static void atMostTwentyCorners() {
        Check.sentence("IllegalStateException if there are 20 corners");
        PolarPlanimeter p = Given.corners(19);
        Check.due("insert the 20th", 20, p.insert(19, 1, 2));
        Given.dueCorner(p, 19, 1, 2, 0);
        for (int k : new int[] {0, 10, 19, 20}) {
            Check.state("insert(" + k + ", 0, 0)", () -> p.insert(k, 0, 0));
        }
        Given.dueCount(p, 0, 20);
        Given.dueCorner(p, 0, 400, 300, 0);
        Given.dueCorner(p, 19, 1, 2, 0);
        p.remove(5);
        Check.due("insert the 20th again", 20, p.insert(0, 3, 4));
        Check.state("insert one more again", () -> p.insert(0, 0, 0));
    }

    private static void insertPlaces() {
        Check.sentence("k: 0 to the number of corners (then it becomes the last one)");
        PolarPlanimeter p = new PolarPlanimeter();
        Check.index("insert(1, ..) without corners", () -> p.insert(1, 0, 0));
        Check.index("insert(-1, ..) without corners", () -> p.insert(-1, 0, 0));
        Check.due("insert(0, ..) without corners", 1, p.insert(0, 1, 2));
        Check.index("insert(2, ..) with a corner", () -> p.insert(2, 0, 0));
        Check.due("insert(1, ..) with a corner", 2, p.insert(1, 3, 4));
        Check.due("insert(0, ..) with two corners", 3, p.insert(0, 5, 6));
        for (int k : new int[] {-1, 4, Given.MIN, Given.MAX}) {
            Check.index("insert(" + k + ", ..) with three corners", () -> p.insert(k, 0, 0));
        }
        Given.dueCorner(p, 0, 5, 6, 0);
        Given.dueCorner(p, 1, 1, 2, 0);
        Given.dueCorner(p, 2, 3, 4, 0);
    }

    private static void insertPlacesInFull() {
        Check.sentence("IndexOutOfBoundsException if k is out of range, named before the others");
        PolarPlanimeter p = Given.full();
        Check.index("insert(21, 0, 0)", () -> p.insert(21, 0, 0));
        Check.index("insert(-1, 0, 0)", () -> p.insert(-1, 0, 0));
        Check.argument("insert(20, 1001, 0)", () -> p.insert(20, 1001, 0));
        Check.state("insert(20, 0, 0)", () -> p.insert(20, 0, 0));
    }

    private static void insertRange() {
        Check.sentence("insert: x: -1000 to 1000, y: -1000 to 1000");
        PolarPlanimeter p = new PolarPlanimeter();
        for (int[] edge : INSIDE) {
            p.insert(0, edge[0], edge[1]);
            Given.dueCorner(p, 0, edge[0], edge[1], 0);
        }
        for (int[] at : OUTSIDE) {
            Check.argument("insert(0, " + at[0] + ", " + at[1] + ")", () -> p.insert(0, at[0], at[1]));
            Given.dueCount(p, 0, INSIDE.length);
        }
    }

    private static PolarPlanimeter withSlips() {
        PolarPlanimeter p = Given.loaded("300,300;700,300;700,600");
        for (int k = 0; k < 3; k++) {
            p.setSlip(k, 10 + k);
        }
        return p;
    }

    private static void insertDividesASegment() {
        Check.sentence("The segment that is divided by it keeps its slip in its first part");
        PolarPlanimeter p = withSlips();
        Check.due("insert", 4, p.insert(1, 500, 301));
        Given.dueCorner(p, 0, 300, 300, 10);
        Given.dueCorner(p, 1, 500, 301, 0);
        Given.dueCorner(p, 2, 700, 300, 11);
        Given.dueCorner(p, 3, 700, 600, 12);
    }

    private static void insertDividesTheLastSegment() {
        Check.sentence("insert in front of the corner 0 and behind the last one");
        PolarPlanimeter front = withSlips();
        Check.due("insert in front", 4, front.insert(0, 500, 301));
        Given.dueCorner(front, 0, 500, 301, 0);
        Given.dueCorner(front, 1, 300, 300, 10);
        Given.dueCorner(front, 2, 700, 300, 11);
        Given.dueCorner(front, 3, 700, 600, 12);
        PolarPlanimeter behind = withSlips();
        Check.due("insert behind", 4, behind.insert(3, 500, 301));
        Given.dueCorner(behind, 0, 300, 300, 10);
        Given.dueCorner(behind, 2, 700, 600, 12);
        Given.dueCorner(behind, 3, 500, 301, 0);
        PolarPlanimeter afterRemove = withSlips();
        afterRemove.remove(2);
        afterRemove.insert(2, 500, 301);
        Given.dueCorner(afterRemove, 2, 500, 301, 0);
    }

    private static void insertForgets() {
        Check.sentence("They are forgotten when .. the outline changes: insert");
        PolarPlanimeter p = Given.rectangle();
        p.run(0, false);
        p.insert(4, 300, 600);
        Given.dueCount(p, 1, 0);
    }

    private static void moveRange() {
        Check.sentence("move: x: -1000 to 1000, y: -1000 to 1000");
        PolarPlanimeter p = Given.corners(3);
        for (int[] edge : INSIDE) {
            p.move(1, edge[0], edge[1]);
            Given.dueCorner(p, 1, edge[0], edge[1], 0);
        }
        for (int[] at : OUTSIDE) {
            Check.argument("move(1, " + at[0] + ", " + at[1] + ")", () -> p.move(1, at[0], at[1]));
            Given.dueCorner(p, 1, 1000, 1000, 0);
        }
    }

    private static void moveNumbers() {
        Check.sentence("move: IndexOutOfBoundsException if there is no such corner");
        PolarPlanimeter none = new PolarPlanimeter();
        Check.index("move(0, 0, 0) without corners", () -> none.move(0, 0, 0));
        PolarPlanimeter p = Given.corners(20);
        for (int k : new int[] {-1, 20, Given.MIN, Given.MAX}) {
            Check.index("move(" + k + ", 0, 0)", () -> p.move(k, 0, 0));
            Check.index("move(" + k + ", 1001, 0), x is wrong, too", () -> p.move(k, 1001, 0));
        }
        p.move(19, 7, 8);
        p.move(0, 9, 10);
        Given.dueCorner(p, 19, 7, 8, 0);
        Given.dueCorner(p, 0, 9, 10, 0);
        Given.dueCorner(p, 18, 760, 300, 0);
    }

    private static void moveKeepsSlip() {
        Check.sentence("Moves a corner: its segment keeps the slip");
        PolarPlanimeter p = withSlips();
        p.move(2, 1, 2);
        Given.dueCorner(p, 2, 1, 2, 12);
    }

    private static void moveForgets() {
        Check.sentence("move returns how many runs are forgotten (also if the new value is the old one)");
        PolarPlanimeter p = Given.full();
        Check.due("move with 12 runs, to where it is", 12, p.move(19, 780, 301));
        Given.dueCount(p, 1, 0);
        Check.due("move without runs", 0, p.move(19, 780, 301));
    }

    private static void removeNumbers() {
        Check.sentence("remove: IndexOutOfBoundsException if there is no such corner");
        PolarPlanimeter none = new PolarPlanimeter();
        Check.index("remove(0) without corners", () -> none.remove(0));
        PolarPlanimeter p = Given.corners(20);
        for (int k : new int[] {-1, 20, Given.MIN, Given.MAX}) {
            Check.index("remove(" + k + ")", () -> p.remove(k));
        }
        Check.due("remove(19) of 20", 19, p.remove(19));
        Check.index("remove(19) of 19", () -> p.remove(19));
        for (int left = 18; left >= 0; left--) {
            Check.due("remove(0)", left, p.remove(0));
        }
        Check.index("remove(0) of none", () -> p.remove(0));
    }

    private static void removeTakesSlip() {
        Check.sentence("Removes a corner with the slip of its segment; the numbers of the later ones decrease by 1");
        PolarPlanimeter first = withSlips();
        Check.due("remove(0)", 2, first.remove(0));
        Given.dueCorner(first, 0, 700, 300, 11);
        Given.dueCorner(first, 1, 700, 600, 12);
        PolarPlanimeter last = withSlips();
        Check.due("remove(2)", 2, last.remove(2));
        Given.dueCorner(last, 0, 300, 300, 10);
        Given.dueCorner(last, 1, 700, 300, 11);
        Check.index("corner(2, 0) then", () -> last.corner(2, 0));
    }

    private static void removeForgets() {
        Check.sentence("They are forgotten when .. the outline changes: remove");
        PolarPlanimeter p = Given.full();
        p.remove(19);
        Given.dueCount(p, 1, 0);
    }

    // ---- slips

    private static void slipRange() {
        Check.sentence("Each segment has a slip, 0 to 100, at first 0");
        PolarPlanimeter p = Given.corners(3);
        Check.due("setSlip(1, 100), the one before", 0, p.setSlip(1, 100));
        Check.due("setSlip(1, 0), the one before", 100, p.setSlip(1, 0));
        Check.due("setSlip(1, 99), the one before", 0, p.setSlip(1, 99));
        for (int slip : new int[] {-1, 101, Given.MIN, Given.MAX}) {
            Check.argument("setSlip(1, " + slip + ")", () -> p.setSlip(1, slip));
            Check.due("the slip", 99, p.corner(1, 2));
        }
        Check.due("the slip of the segment before", 0, p.corner(0, 2));
        Check.due("the slip of the next segment", 0, p.corner(2, 2));
    }

    private static void slipNumbers() {
        Check.sentence("setSlip: IndexOutOfBoundsException if there is no such segment");
        PolarPlanimeter none = new PolarPlanimeter();
        Check.index("setSlip(0, 0) without corners", () -> none.setSlip(0, 0));
        PolarPlanimeter p = Given.corners(20);
        for (int k : new int[] {-1, 20, Given.MIN, Given.MAX}) {
            Check.index("setSlip(" + k + ", 0)", () -> p.setSlip(k, 0));
            Check.index("setSlip(" + k + ", 101), the slip is wrong, too", () -> p.setSlip(k, 101));
        }
        p.setSlip(19, 5);
        p.setSlip(0, 6);
        Check.due("the slip of the last segment", 5, p.corner(19, 2));
        Check.due("the slip of the segment 0", 6, p.corner(0, 2));
    }

    private static void slipForgetsNothing() {
        Check.sentence("but not when slips change (Runs that were made stay as they are.)");
        PolarPlanimeter p = Given.rectangle();
        p.run(0, false);
        for (int k = 0; k < 4; k++) {
            p.setSlip(k, 100);
        }
        Given.dueCount(p, 1, 1);
        Check.due("made(0, 2)", 61362097, p.made(0, 2));
    }

    // ---- what there is of a corner

    private static void cornerNumbers() {
        Check.sentence("corner: no such corner; what is not 0 to 5");
        PolarPlanimeter none = new PolarPlanimeter();
        Check.index("corner(0, 0) without corners", () -> none.corner(0, 0));
        PolarPlanimeter p = Given.corners(20);
        for (int k : new int[] {-1, 20, Given.MIN, Given.MAX}) {
            Check.index("corner(" + k + ", 0)", () -> p.corner(k, 0));
            Check.index("corner(" + k + ", 6), what is wrong, too", () -> p.corner(k, 6));
        }
        for (int what : new int[] {-1, 6, Given.MIN, Given.MAX}) {
            Check.argument("corner(19, " + what + ")", () -> p.corner(19, what));
        }
        Check.due("corner(19, 0)", 780, p.corner(19, 0));
        Check.due("corner(19, 5)", 1, p.corner(19, 5));
    }

    private static void lastSegmentGoesToFirst() {
        Check.sentence("from the last one to the corner 0");
        PolarPlanimeter p = Given.rectangle();
        Check.due("the steps of the last segment", 6, p.corner(3, 3));
        Check.due("the roll of the last segment", 52525754, p.corner(3, 4));
        Given.dueCount(p, 5, 240000);
        p.setAnchor(300, 301);
        Given.dueCount(p, 9, 1);
    }

    private static void oneCorner() {
        Check.sentence("from the last one to the corner 0, which are the same one");
        PolarPlanimeter p = new PolarPlanimeter();
        p.insert(0, 300, -400);
        Check.due("its steps", 1, p.corner(0, 3));
        Check.due("its roll", 0, p.corner(0, 4));
        Check.due("its reach", 1, p.corner(0, 5));
        Given.dueCount(p, 5, 0);
        Given.dueCount(p, 7, 0);
        p.setAnchor(300, -400);
        Given.dueCount(p, 9, 1);
        Check.due("its reach at the anchor", 0, p.corner(0, 5));
        p.setAnchor(301, -400);
        Given.dueCount(p, 9, 0);
    }

    private static void sameCorners() {
        Check.sentence("Two successive corners can be the same point");
        PolarPlanimeter p = Given.loaded("300,300;300,300;300,300");
        Given.dueCount(p, 13, 3);
        Check.due("run", 0, p.run(2, false));
        Check.due("run backward", 1, p.run(0, true));
        for (int run = 0; run < 2; run++) {
            Check.due("the sum of run " + run, 0, p.made(run, 2));
        }
        Check.due("insert the same one", 4, p.insert(1, 300, 300));
        Check.due("move to the same one", 0, p.move(2, 300, 300));
    }

    // ---- steps

    private static PolarPlanimeter twoCorners(int x, int y, int u, int v) {
        PolarPlanimeter p = new PolarPlanimeter();
        p.insert(0, x, y);
        p.insert(1, u, v);
        return p;
    }

    private static void leastSteps() {
        Check.sentence("n is (m + step - 1) / step, but at least 1");
        int[][] due = {{0, 1}, {1, 1}, {49, 1}, {50, 1}, {51, 2}, {100, 2}, {101, 3}};
        for (int[] pair : due) {
            PolarPlanimeter p = twoCorners(300, 300, 300 + pair[0], 300);
            Check.due("the steps over " + pair[0], pair[1], p.corner(0, 3));
            Check.due("the steps back over " + pair[0], pair[1], p.corner(1, 3));
            Given.dueCount(p, 13, 2 * pair[1]);
        }
    }

    private static void stepsOfTheGreaterDifference() {
        Check.sentence("m as the greater one of the differences of the coordinates (as absolute values)");
        int[][] differences = {{51, 0}, {-51, 0}, {0, 51}, {0, -51}, {51, -40}, {-40, 51}, {-51, -50}, {-50, -51}};
        for (int[] d : differences) {
            PolarPlanimeter p = twoCorners(100, 100, 100 + d[0], 100 + d[1]);
            Check.due("the steps over " + d[0] + ", " + d[1], 2, p.corner(0, 3));
        }
    }

    private static void mostSteps() {
        Check.sentence("the step, 20 to 200, and coordinates from -1000 to 1000");
        PolarPlanimeter p = twoCorners(-1000, 1000, 1000, -1000);
        p.set(Given.STEP, 20);
        Check.due("the most steps", 100, p.corner(0, 3));
        Given.dueCount(p, 13, 200);
        p.set(Given.STEP, 200);
        Check.due("the steps with the longest one", 10, p.corner(0, 3));
        for (int k = 2; k < 20; k++) {
            p.insert(k, k % 2 == 0 ? -1000 : 1000, k % 2 == 0 ? 1000 : -1000);
        }
        p.set(Given.STEP, 20);
        Given.dueCount(p, 13, 2000);
    }

    private static void stepsOfTheLastSegment() {
        Check.sentence("the other end of the last segment is the corner 0");
        PolarPlanimeter p = Given.loaded("0,0;10,0;20,0;151,0");
        long[] due = {1, 1, 3, 4};
        for (int k = 0; k < 4; k++) {
            Check.due("the steps of " + k, due[k], p.corner(k, 3));
        }
    }

    /** Cut off downward, or at another place of the formula, they would be other rolls. */
    private static void truncatedPoints() {
        Check.sentence("its points are .. (16 * x + 16 * (u - x) * i / n, 16 * y + 16 * (v - y) * i / n)");
        PolarPlanimeter p = Given.loaded("-700,-301;-600,99;-901,-500");
        p.set(Given.STEP, 137);
        long[] rolls = {104474639, -26742110, -62702688};
        for (int k = 0; k < 3; k++) {
            Check.due("the roll of " + k, rolls[k], p.corner(k, 4));
        }
    }

    /** The anchor is 180 from the middle of the segment 0; from 200 on it is in reach. */
    private static void rollOutOfReach() {
        Check.sentence("4: its roll, 0 if a point of it is not in reach; 5: 1 if all points are in reach");
        PolarPlanimeter p = Given.loaded("-100,180;100,180;0,900");
        p.set(Given.STEP, 200);
        Check.due("the roll in one step", 303867879, p.corner(0, 4));
        Check.due("the reach in one step", 1, p.corner(0, 5));
        p.set(Given.STEP, 199);
        Check.due("the roll in two steps", 0, p.corner(0, 4));
        Check.due("the reach in two steps", 0, p.corner(0, 5));
        Check.due("the roll of another segment", -173139522, p.corner(1, 4));
        Check.due("the reach of another segment", 1, p.corner(1, 5));
        PolarPlanimeter ends = twoCorners(201, 0, 199, 0);
        Check.due("the reach if the end is out", 0, ends.corner(0, 5));
        Check.due("the reach if the beginning is out", 0, ends.corner(1, 5));
        ends.move(1, 200, 0);
        Check.due("the reach with the end at 200", 1, ends.corner(0, 5));
        Check.due("the reach with the beginning at 200", 1, ends.corner(1, 5));
    }

    private static void rollWithoutSlipAndPlay() {
        Check.sentence("The roll of a segment is .. followed forward, without slip and play");
        PolarPlanimeter p = Given.rectangle();
        p.set(Given.PLAY, 10000);
        for (int k = 0; k < 4; k++) {
            p.setSlip(k, 100);
        }
        long[] rolls = {177143901, -10983271, -157298687, 52525754};
        for (int k = 0; k < 4; k++) {
            Check.due("the roll of " + k, rolls[k], p.corner(k, 4));
        }
    }

    // ---- the area

    private static void dueArea(String text, long twice, long area) {
        PolarPlanimeter p = Given.loaded(text);
        Given.dueCount(p, 5, twice);
        Given.dueCount(p, 6, area);
    }

    private static void truncatedArea() {
        Check.sentence("The area of the outline is half of twice its area, truncated toward 0");
        dueArea("0,0;1,0;0,1", 1, 0);
        dueArea("0,0;0,1;1,0", -1, 0);
        dueArea("0,0;1,0;0,3", 3, 1);
        dueArea("0,0;0,3;1,0", -3, -1);
        dueArea("0,0;2,0;0,1", 2, 1);
        dueArea("0,0;0,1;2,0", -2, -1);
    }

    private static void noArea() {
        Check.sentence("twice the area of the outline without corners, with one, and with two");
        Given.dueCount(new PolarPlanimeter(), 5, 0);
        Given.dueCount(new PolarPlanimeter(), 6, 0);
        PolarPlanimeter p = twoCorners(-1000, 999, 998, 997);
        Given.dueCount(p, 5, 0);
        Given.dueCount(p, 6, 0);
    }

    private static void greatestArea() {
        Check.sentence("the sum over all segments, the last one with it");
        dueArea("-1000,-1000;1000,-1000;1000,1000;-1000,1000", 8000000, 4000000);
        dueArea("-1000,1000;1000,1000;1000,-1000;-1000,-1000", -8000000, -4000000);
    }
}

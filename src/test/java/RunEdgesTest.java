/**
 * The edges that the document names in "Runs", and in the promises of run, runAll, forget, reason, made
 * and why; with the winding, the constant, and whether the anchor is on the outline.
 *
 * TURN and FLAT are triangles whose segments are followed in one step each, so that their rolls are all
 * that the wheel gets: 988161, -384642, -605682 and 822784, -757513, -71262.
 */
public final class RunEdgesTest {
    /** The first roll is 512 * 1930 + 1. */
    private static final String TURN = "500,-600;493,-602;492,-601";
    /** The first roll is 512 * 1607. */
    private static final String FLAT = "800,0;802,-1;793,-8";
    private static final long CONSTANT = 4523893;

    private RunEdgesTest() {
    }

    public static void main(String[] args) {
        wheelAboveGreatest();
        wheelAtGreatest();
        wheelBelowZero();
        wheelAtZero();
        wheelWithoutPlay();
        wheelWithGreatestPlay();
        wheelBeginsAtZero();
        onceAroundFromEachCorner();
        slipOfEachStep();
        slipsAtTheirEdges();
        slipOfTheLastSegment();
        windingAtTheHeight();
        windingOnASegment();
        windingOfTheLastSegment();
        windingAboveInt();
        constantTruncated();
        sumAboveInt();
        readingTruncated();
        areaTruncated();
        anchorOnEnds();
        anchorBesideEnds();
        anchorOnTheLastSegment();
        tooFewCorners();
        outOfReach();
        twelveRuns();
        firstReasonThatHolds();
        reasonAtFirst();
        reasonStays();
        runNumbers();
        runCorners();
        whyCorners();
        whyChangesNothing();
        runAllWithoutCorners();
        runAllTooFewCorners();
        runAllRefusedFirst();
        runAllWithThree();
        runAllUpToTwelve();
        runAllBeyondTwelve();
        runAllWithOnePlaceLeft();
        forgetNoneAndAll();
        madeNumbers();
        Check.end();
    }

    private static void dueSum(PolarPlanimeter p, int corner, boolean backward, long sum) {
        String run = "the sum from corner " + corner + (backward ? ", backward" : ", forward");
        Check.due(run, sum, p.made(p.run(corner, backward), 2));
        p.forget();
    }

    private static PolarPlanimeter played(String triangle, int play) {
        PolarPlanimeter p = Given.small(triangle);
        p.set(Given.PLAY, play);
        return p;
    }

    // ---- the wheel

    /** From the corner 1 the roll 988161 comes last, with s = 0 before it. */
    private static void wheelAboveGreatest() {
        Check.sentence("If s is greater than G then, the wheel counts s - G, and s becomes G");
        dueSum(played(TURN, 1929), 1, false, -384642 - 605682 + 513);
        dueSum(played(TURN, 1930), 1, false, -384642 - 605682 + 1);
        dueSum(played(TURN, 1931), 1, false, -384642 - 605682);
    }

    private static void wheelAtGreatest() {
        Check.sentence("a number from 0 to G; otherwise it counts nothing");
        dueSum(played(FLAT, 1606), 1, false, -757513 - 71262 + 512);
        dueSum(played(FLAT, 1607), 1, false, -757513 - 71262);
        dueSum(played(FLAT, 1608), 1, false, -757513 - 71262);
    }

    /** Backward from the corner 0: 605682, 384642, and then -988161, with s = G before it. */
    private static void wheelBelowZero() {
        Check.sentence("if s is below 0, the wheel counts s, and s becomes 0");
        dueSum(played(TURN, 1930), 0, true, -(605682 + 384642 - 512 * 1930 - 1));
        dueSum(played(TURN, 1931), 0, true, -(605682 + 384642 - 512 * 1931));
    }

    /** Backward from the corner 0: 71262, 757513, and then -822784, with s = G before it. */
    private static void wheelAtZero() {
        Check.sentence("a number from 0 to G; otherwise it counts nothing");
        dueSum(played(FLAT, 1606), 0, true, -(71262 + 757513 - 822784));
        dueSum(played(FLAT, 1607), 0, true, -(71262 + 757513 - 512 * 1607));
        dueSum(played(FLAT, 1608), 0, true, -(71262 + 757513 - 512 * 1608));
    }

    private static void wheelWithoutPlay() {
        Check.sentence("the play, 0 to 10000: without it all is counted");
        for (int corner = 0; corner < 3; corner++) {
            dueSum(played(TURN, 0), corner, false, 988161 - 384642 - 605682);
            dueSum(played(TURN, 0), corner, true, 988161 - 384642 - 605682);
        }
    }

    private static void wheelWithGreatestPlay() {
        Check.sentence("the play, 0 to 10000: what is in it at the end is not counted");
        PolarPlanimeter p = played(TURN, 10000);
        dueSum(p, 0, false, -2163);
        dueSum(p, 1, false, -384642 - 605682);
        dueSum(p, 0, true, 0);
        dueSum(p, 1, true, 988161);
    }

    /** The runs before leave s at its greatest. */
    private static void wheelBeginsAtZero() {
        Check.sentence("s .. is 0 at the beginning of a run");
        PolarPlanimeter p = played(TURN, 1930);
        for (int i = 0; i < 3; i++) {
            Check.due("run", i, p.run(1, false));
            Check.due("the sum of run " + i, -990323, p.made(i, 2));
        }
        Check.due("ifSet behind a run", -990323, p.ifSet(1, false, Given.PLAY, 1930));
    }

    /** With the play of 1931 each corner and each direction has a sum of its own. */
    private static void onceAroundFromEachCorner() {
        Check.sentence("follows all segments once, forward or backward, from the last one to the corner 0, too");
        PolarPlanimeter p = played(TURN, 1931);
        dueSum(p, 0, false, -2163);
        dueSum(p, 1, false, -990324);
        dueSum(p, 2, false, -605682);
        dueSum(p, 0, true, -1652);
        dueSum(p, 1, true, 986509);
        dueSum(p, 2, true, 603519);
    }

    // ---- slips

    /** Of each segment at once, or cut off downward, other sums would be left. */
    private static void slipOfEachStep() {
        Check.sentence("q * (100 - slip) / 100 is left, truncated toward 0 in each step");
        int[] slips = {0, 1, 33, 99, 100};
        long[] sums = {61387697, 60773818, 41129756, 613876, 0};
        for (int i = 0; i < slips.length; i++) {
            PolarPlanimeter p = Given.rectangle();
            p.set(Given.PLAY, 0);
            for (int k = 0; k < 4; k++) {
                p.setSlip(k, slips[i]);
            }
            dueSum(p, 0, false, sums[i]);
            dueSum(p, 0, true, sums[i]);
        }
    }

    private static void slipsAtTheirEdges() {
        Check.sentence("Each segment has a slip, 0 to 100");
        PolarPlanimeter p = played(TURN, 0);
        p.setSlip(2, 100);
        dueSum(p, 0, false, 988161 - 384642);
        p.setSlip(2, 99);
        dueSum(p, 0, false, 988161 - 384642 - 6056);
        p.setSlip(2, 1);
        dueSum(p, 0, false, 988161 - 384642 - 599625);
        p.setSlip(2, 0);
        dueSum(p, 0, false, 988161 - 384642 - 605682);
    }

    private static void slipOfTheLastSegment() {
        Check.sentence("Of that the slip of the segment is lost, in both directions");
        long[] rolls = {988161, -384642, -605682};
        for (int k = 0; k < 3; k++) {
            PolarPlanimeter p = played(TURN, 0);
            p.setSlip(k, 100);
            for (int corner = 0; corner < 3; corner++) {
                dueSum(p, corner, false, -2163 - rolls[k]);
                dueSum(p, corner, true, -2163 - rolls[k]);
            }
        }
    }

    // ---- the winding and the constant

    private static void dueWinding(String text, int x, int y, long want) {
        PolarPlanimeter p = Given.loaded(text);
        p.setAnchor(x, y);
        Check.due("the winding of " + text + " around " + x + ", " + y, want, p.count(7));
    }

    private static void windingAtTheHeight() {
        Check.sentence("1 if y is at most ay, v is above ay ..; -1 if y is above ay, v is at most ay ..");
        // corners at the height of the anchor, on both sides of it
        dueWinding("9,0;0,9;-9,0;0,-9", 0, 0, 1);
        dueWinding("0,-9;-9,0;0,9;9,0", 0, 0, -1);
        // outside, at the height of a corner and of a level segment
        dueWinding("9,0;0,9;-9,0;0,-9", -10, 0, 0);
        dueWinding("9,0;0,9;-9,0;0,-9", 10, 0, 0);
        dueWinding("-9,-9;9,-9;9,9;-9,9", -10, 9, 0);
        dueWinding("-9,-9;9,-9;9,9;-9,9", -10, -9, 0);
        dueWinding("-9,-9;9,-9;9,9;-9,9", 0, 8, 1);
        dueWinding("-9,-9;9,-9;9,9;-9,9", 0, -8, 1);
        dueWinding("-9,9;9,9;9,-9;-9,-9", 0, 8, -1);
        dueWinding("-9,9;9,9;9,-9;-9,-9", 0, -8, -1);
    }

    private static void windingOnASegment() {
        Check.sentence("on the left if c of both ends and the anchor is above 0, on the right if it is below 0");
        String square = "-9,-9;9,-9;9,9;-9,9";
        dueWinding(square, 9, 0, 0);
        dueWinding(square, -9, 0, 1);
        String clockwise = "-9,9;9,9;9,-9;-9,-9";
        dueWinding(clockwise, 9, 0, 0);
        dueWinding(clockwise, -9, 0, -1);
        dueWinding(square, 10, 0, 0);
        dueWinding(square, 8, 0, 1);
        // c is 1 and -1
        dueWinding("0,-1;1,1;-5,0", 0, 0, 1);
        dueWinding("-5,0;1,1;0,-1", 0, 0, -1);
    }

    private static void windingOfTheLastSegment() {
        Check.sentence("the sum over all segments: the last one alone is crossed");
        dueWinding("5,5;-5,1;5,-5", 0, 1, 1);
        dueWinding("5,-5;-5,1;5,5", 0, 1, -1);
    }

    /** 355 * 3000 * 3000 is more than an int; 2 * 355 * 200 * 200 / 113 is one more than twice 125663. */
    private static void windingAboveInt() {
        Check.sentence("The constant is w * (355 * P * P / 113) (many are greater than an int)");
        PolarPlanimeter p = Given.around();
        p.set(Given.POLE, 3000);
        Given.dueCount(p, 8, 28274336);
        p.set(Given.POLE, 200);
        Given.dueCount(p, 8, 125663);
        PolarPlanimeter twice = Given.loaded("9,-9;9,9;-9,9;-9,-9;8,-8;8,8;-8,8;-8,-8");
        twice.set(Given.POLE, 200);
        Given.dueCount(twice, 7, 2);
        Given.dueCount(twice, 8, 2 * 125663);
    }

    /** 355 * 200 * 200 / 113 is 125663 and 81 of 113. */
    private static void constantTruncated() {
        Check.sentence("The constant is w * (355 * P * P / 113), 0 if w is 0");
        PolarPlanimeter p = Given.loaded("-9,9;9,9;9,-9;-9,-9");
        p.set(Given.POLE, 200);
        Given.dueCount(p, 7, -1);
        Given.dueCount(p, 8, -125663);
        p.setAnchor(10, 0);
        Given.dueCount(p, 8, 0);
        Given.dueCount(new PolarPlanimeter(), 8, 0);
    }

    private static void sumAboveInt() {
        Check.sentence("All numbers are integers, exactly (many are greater than an int): roll, sum and area");
        PolarPlanimeter p = Given.around();
        p.set(Given.POLE, 3000);
        p.set(Given.TRACER, 3000);
        for (int k = 0; k < 4; k++) {
            Check.due("the roll of " + k, -3203127107L, p.corner(k, 4));
        }
        p.run(0, false);
        p.run(0, true);
        Check.due("the sum", -12812508428L, p.made(0, 2));
        Check.due("the sum, backward", -12812482828L, p.made(1, 2));
        Check.due("the reading", -8341, p.made(0, 3));
        Check.due("the area", 28274336 - 25024430, p.made(0, 4));
    }

    /** -990324 / 512000 is -1 and a part, and -990324 / 512 is -1934 and a part. */
    private static void readingTruncated() {
        Check.sentence("The reading of a run is sum / (512 * L), truncated toward 0");
        PolarPlanimeter p = played(TURN, 10000);
        p.run(1, false);
        Check.due("the reading", -1, p.made(0, 3));
        Check.due("the area", -1934, p.made(0, 4));
        p.run(1, true);
        Check.due("the reading of 988161", 1, p.made(1, 3));
        Check.due("the area of 988161", 1930, p.made(1, 4));
        p.run(0, true);
        Check.due("the reading of 0", 0, p.made(2, 3));
        Check.due("the area of 0", 0, p.made(2, 4));
    }

    /** -656314620 / 512 is -1281864 and a part, and the area is above 0. */
    private static void areaTruncated() {
        Check.sentence("Its area is sum / 512 + the constant: truncated before the constant is added");
        PolarPlanimeter p = Given.around();
        p.set(Given.TRACER, 1200);
        p.run(0, false);
        Check.due("the sum", -656314620, p.made(0, 2));
        Check.due("the area", -1281864 + CONSTANT, p.made(0, 4));
        Check.due("the reading has no constant", -656314620 / (512 * 1200), p.made(0, 3));
    }

    // ---- the anchor on the outline

    private static void anchorOnEnds() {
        Check.sentence("2: the anchor is on the outline (on a segment, ends included)");
        int[][] on = {{300, 300}, {700, 300}, {700, 600}, {300, 600}, {301, 300}, {699, 300}, {700, 301},
            {700, 599}, {699, 600}, {301, 600}, {300, 599}, {300, 301}};
        for (int[] at : on) {
            PolarPlanimeter p = Given.rectangle();
            p.setAnchor(at[0], at[1]);
            Given.dueCount(p, 9, 1);
            Check.due("why at " + at[0] + ", " + at[1], 2, p.why(0, false));
        }
    }

    private static void anchorBesideEnds() {
        Check.sentence("2: beside the ends, and beside the segments, it is not on the outline");
        int[][] off = {{299, 300}, {701, 300}, {700, 299}, {700, 601}, {299, 600}, {701, 600}, {300, 299},
            {300, 601}, {301, 301}, {699, 599}};
        for (int[] at : off) {
            PolarPlanimeter p = Given.rectangle();
            p.setAnchor(at[0], at[1]);
            Given.dueCount(p, 9, 0);
        }
        PolarPlanimeter slanted = Given.loaded("-20,-10;20,10;500,500");
        int[][] inLine = {{-22, -11}, {-20, -10}, {-2, -1}, {0, 0}, {20, 10}, {22, 11}, {0, 1}, {1, 0}};
        long[] due = {0, 1, 1, 1, 1, 0, 0, 0};
        for (int i = 0; i < due.length; i++) {
            slanted.setAnchor(inLine[i][0], inLine[i][1]);
            Given.dueCount(slanted, 9, due[i]);
        }
    }

    private static void anchorOnTheLastSegment() {
        Check.sentence("2: on the segment from the last corner to the corner 0");
        PolarPlanimeter p = Given.loaded("0,100;50,50;100,0");
        p.setAnchor(40, 60);
        Given.dueCount(p, 9, 1);
        p.move(1, 200, 200);
        Given.dueCount(p, 9, 1);
        p.insert(3, -300, -300);
        Given.dueCount(p, 9, 0);
        Given.dueCount(new PolarPlanimeter(), 9, 0);
    }

    // ---- reasons

    private static void dueRefused(PolarPlanimeter p, int corner, boolean backward, int reason) {
        Check.due("why", reason, p.why(corner, backward));
        Check.state("run(" + corner + ", " + backward + ")", () -> p.run(corner, backward));
        Check.due("reason()", reason, p.reason());
    }

    private static void tooFewCorners() {
        Check.sentence("1: there are fewer than 3 corners");
        PolarPlanimeter p = Given.corners(1);
        dueRefused(p, 0, false, 1);
        p.insert(1, 500, 300);
        dueRefused(p, 1, true, 1);
        p.insert(2, 500, 400);
        Check.due("why with 3 corners", 0, p.why(2, true));
        Check.due("run with 3 corners", 0, p.run(2, true));
        Check.due("reason()", 0, p.reason());
        p.remove(2);
        dueRefused(p, 0, true, 1);
    }

    private static void outOfReach() {
        Check.sentence("3: a point of a step of the run is not in reach");
        PolarPlanimeter middle = Given.loaded("-100,180;100,180;0,900");
        middle.set(Given.STEP, 200);
        Check.due("run if the step goes over it", 0, middle.run(0, false));
        middle.set(Given.STEP, 199);
        dueRefused(middle, 2, true, 3);
        PolarPlanimeter last = Given.loaded("100,180;0,900;-100,180");
        last.set(Given.STEP, 199);
        dueRefused(last, 0, false, 3);
        PolarPlanimeter far = Given.loaded("1000,0;900,100;900,-100");
        far.setAnchor(-1200, 0);
        Check.due("run with a corner as far as it goes", 0, far.run(0, false));
        far.setAnchor(-1201, 0);
        dueRefused(far, 1, false, 3);
        dueRefused(far, 2, true, 3);
    }

    private static void twelveRuns() {
        Check.sentence("4: there are 12 runs");
        PolarPlanimeter p = Given.rectangle();
        for (int run = 0; run < 12; run++) {
            Check.due("why before run " + run, 0, p.why(0, false));
            Check.due("run", run, p.run(0, false));
            Check.due("reason()", 0, p.reason());
        }
        dueRefused(p, 3, true, 4);
        Given.dueCount(p, 1, 12);
        p.undo();
        Check.due("why with 11 again", 0, p.why(0, false));
        Check.due("run with 11 again", 11, p.run(0, true));
        Check.due("reason() then", 0, p.reason());
    }

    private static void firstReasonThatHolds() {
        Check.sentence("A run is refused for the first of these reasons that holds");
        PolarPlanimeter p = new PolarPlanimeter();
        p.insert(0, 0, 0);
        p.insert(1, 100, 0);
        dueRefused(p, 0, false, 1);
        p.insert(2, 0, 100);
        dueRefused(p, 0, false, 2);
        p.setAnchor(-1, 0);
        dueRefused(p, 0, false, 3);
    }

    private static void reasonAtFirst() {
        Check.sentence("the latest reason (0 at first)");
        Check.due("reason()", 0, new PolarPlanimeter().reason());
    }

    private static void reasonStays() {
        Check.sentence("The latest reason becomes 0, or the one for which it is refused: other calls leave it");
        PolarPlanimeter p = Given.full();
        Check.due("reason()", 4, p.reason());
        Check.index("run(20, false)", () -> p.run(20, false));
        Check.due("reason() after a wrong corner", 4, p.reason());
        p.why(0, false);
        p.forget();
        p.clearBuffer();
        p.setSlip(0, 1);
        p.undo();
        p.setAnchor(1, 1);
        p.ifSet(0, false, 1, 300);
        Check.due("reason() after other calls", 4, p.reason());
        p.setAnchor(400, 300);
        Check.state("run(0, false)", () -> p.run(0, false));
        Check.due("reason() of the anchor", 2, p.reason());
        p.setAnchor(0, 0);
        p.run(0, false);
        Check.due("reason() of a run that is made", 0, p.reason());
    }

    // ---- the calls

    private static void runNumbers() {
        Check.sentence("Runs are kept, numbered from 0; Returns the number of the run");
        PolarPlanimeter p = Given.rectangle();
        Check.due("the first run", 0, p.run(3, true));
        Check.due("the second run", 1, p.run(0, false));
        p.forget();
        Check.due("the first run behind forget", 0, p.run(1, false));
    }

    private static void runCorners() {
        Check.sentence("run: IndexOutOfBoundsException if there is no such corner, named before the other");
        PolarPlanimeter none = new PolarPlanimeter();
        Check.index("run(0, false) without corners", () -> none.run(0, false));
        Check.due("reason() without corners", 0, none.reason());
        PolarPlanimeter full = Given.full();
        for (int corner : new int[] {-1, 20, Given.MIN, Given.MAX}) {
            Check.index("run(" + corner + ", true)", () -> full.run(corner, true));
        }
        full.forget();
        Check.due("run(19, true)", 0, full.run(19, true));
        Check.due("where it began", 19, full.made(0, 0));
    }

    private static void whyCorners() {
        Check.sentence("why: IndexOutOfBoundsException if there is no such corner");
        PolarPlanimeter none = new PolarPlanimeter();
        Check.index("why(0, false) without corners", () -> none.why(0, false));
        PolarPlanimeter full = Given.full();
        for (int corner : new int[] {-1, 20, Given.MIN, Given.MAX}) {
            Check.index("why(" + corner + ", false)", () -> full.why(corner, false));
        }
        Check.due("why(19, true)", 4, full.why(19, true));
        full.forget();
        Check.due("why(19, true) without runs", 0, full.why(19, true));
    }

    private static void whyChangesNothing() {
        Check.sentence("what would be; nothing is changed: why");
        PolarPlanimeter p = Given.full();
        p.why(0, false);
        Given.dueSame("after why(0, false)", p, Given::full, 4, Given.FULL_TEXT);
    }

    private static void dueRunAll(PolarPlanimeter p, int made, int reason) {
        long saved = p.count(14);
        Check.due("runAll()", made, p.runAll());
        Check.due("reason()", reason, p.reason());
        Given.dueCount(p, 14, Math.min(6, saved + 1));
    }

    private static void runAllWithoutCorners() {
        Check.sentence("0 if none is (also if there are no corners)");
        PolarPlanimeter p = new PolarPlanimeter();
        dueRunAll(p, 0, 0);
        p.insert(0, 300, 300);
        dueRunAll(p, 0, 1);
        p.remove(0);
        dueRunAll(p, 0, 0);
    }

    private static void runAllTooFewCorners() {
        Check.sentence("Undoable, as one call, also if the first one is refused: fewer than 3 corners");
        PolarPlanimeter p = Given.corners(2);
        dueRunAll(p, 0, 1);
        Check.due("undo()", 2, p.undo());
        Given.dueCount(p, 0, 2);
        Check.due("reason() after undo", 1, p.reason());
    }

    private static void runAllRefusedFirst() {
        Check.sentence("The latest reason becomes that of the run that is refused: 2 and 3");
        PolarPlanimeter p = Given.rectangle();
        p.setAnchor(300, 600);
        dueRunAll(p, 0, 2);
        p.setAnchor(-2000, -2000);
        dueRunAll(p, 0, 3);
    }

    private static void runAllWithThree() {
        Check.sentence("Makes runs from each corner, ascending, forward and then backward from each");
        PolarPlanimeter p = Given.corners(3);
        dueRunAll(p, 6, 0);
        for (int run = 0; run < 6; run++) {
            Check.due("where run " + run + " began", run / 2, p.made(run, 0));
            Check.due("the direction of run " + run, run % 2, p.made(run, 1));
        }
        p.undo();
        Given.dueCount(p, 1, 0);
    }

    private static void runAllUpToTwelve() {
        Check.sentence("as long as none is refused: 12 runs of 6 corners");
        PolarPlanimeter p = Given.corners(6);
        dueRunAll(p, 12, 0);
        Check.due("where the last one began", 5, p.made(11, 0));
        Check.due("its direction", 1, p.made(11, 1));
        dueRunAll(p, 0, 4);
        Given.dueCount(p, 1, 12);
    }

    private static void runAllBeyondTwelve() {
        Check.sentence("as long as none is refused: the 13th is refused");
        dueRunAll(Given.corners(7), 12, 4);
        dueRunAll(Given.corners(20), 12, 4);
    }

    private static void runAllWithOnePlaceLeft() {
        Check.sentence("Returns how many runs are made");
        PolarPlanimeter p = Given.rectangle();
        for (int run = 0; run < 11; run++) {
            p.run(3, true);
        }
        dueRunAll(p, 1, 4);
        Check.due("where it began", 0, p.made(11, 0));
        Check.due("its direction", 0, p.made(11, 1));
        p.undo();
        Given.dueCount(p, 1, 11);
    }

    private static void forgetNoneAndAll() {
        Check.sentence("Forgets all runs. Returns how many there were");
        Check.due("forget() of a new object", 0, new PolarPlanimeter().forget());
        PolarPlanimeter p = Given.full();
        Check.due("forget() of 12", 12, p.forget());
        Given.dueCount(p, 1, 0);
        Check.due("forget() of none", 0, p.forget());
        Check.index("made(0, 0)", () -> p.made(0, 0));
    }

    private static void madeNumbers() {
        Check.sentence("made: no such run; what is not 0 to 5");
        PolarPlanimeter none = Given.rectangle();
        Check.index("made(0, 0) without runs", () -> none.made(0, 0));
        Check.index("made(0, 6) without runs", () -> none.made(0, 6));
        PolarPlanimeter full = Given.full();
        for (int run : new int[] {-1, 12, Given.MIN, Given.MAX}) {
            Check.index("made(" + run + ", 0)", () -> full.made(run, 0));
            Check.index("made(" + run + ", 6), what is wrong, too", () -> full.made(run, 6));
        }
        for (int what : new int[] {-1, 6, Given.MIN, Given.MAX}) {
            Check.argument("made(11, " + what + ")", () -> full.made(11, what));
        }
        Check.due("made(11, 0)", 5, full.made(11, 0));
        Check.due("made(11, 1)", 1, full.made(11, 1));
    }
}

/**
 * The edges that the document names in "Means". Slips may change between runs, so that each run here
 * has the area that is wanted: the slips for it were searched apart from the program.
 */
public final class MeanEdgesTest {
    private static final String TRIANGLE = "300,300;700,300;500,600";
    private static final long AREA = 60000;
    /** An area, and the slips of the three segments with which a run without play has it. */
    private static final int[][] SLIPS = {{0, 28, 6, 27}, {1, 50, 44, 30}, {2, 72, 82, 33}, {3, 49, 35, 45},
        {-1, 29, 15, 12}, {-2, 32, 5, 44}, {-3, 55, 52, 32}, {10, 41, 37, 11}, {20, 56, 49, 42},
        {30, 69, 80, 26}, {35, 44, 15, 68}, {50, 50, 57, 3}, {100, 29, 4, 35}, {150, 28, 8, 23},
        {200, 52, 40, 46}, {201, 27, 12, 11}, {400, 29, 8, 27}, {401, 51, 46, 30}, {1000, 54, 44, 46},
        {100000, 8, 21, 29}, {100001, 30, 59, 32}, {-200, 29, 0, 43}, {-201, 52, 47, 31}};

    private MeanEdgesTest() {
    }

    public static void main(String[] args) {
        noRuns();
        oneRun();
        twoRunsAreKept();
        twoOfThreeAreLeft();
        distanceAtTolerance();
        toleranceAtFirst();
        leastTolerance();
        greatestTolerance();
        middleOfAnEvenNumber();
        middleOfThoseLeft();
        lowestOfSeveral();
        lowestOfEqualOnes();
        twelveRuns();
        truncatedMean();
        negativeDistance();
        withConstant();
        toleranceOfTheMoment();
        eachNumberByItself();
        meanMinusArea();
        Check.end();
    }

    private static int[] slipsFor(int area) {
        for (int[] row : SLIPS) {
            if (row[0] == area) {
                return row;
            }
        }
        throw new IllegalArgumentException("no slips for the area " + area);
    }

    /** Runs of these areas, in this order. */
    private static PolarPlanimeter runs(int tolerance, int... areas) {
        PolarPlanimeter p = Given.loaded(TRIANGLE);
        p.set(Given.PLAY, 0);
        p.setTolerance(tolerance);
        for (int area : areas) {
            int[] slips = slipsFor(area);
            for (int k = 0; k < 3; k++) {
                p.setSlip(k, slips[k + 1]);
            }
            Check.due("the area of the run", area, p.made(p.run(0, false), 4));
        }
        return p;
    }

    /** Left out are the runs of these numbers, and no others. */
    private static void dueMean(PolarPlanimeter p, long mean, int... leftOut) {
        Given.dueCount(p, 10, mean);
        Given.dueCount(p, 11, leftOut.length);
        Given.dueCount(p, 12, mean - AREA);
        for (int run = 0; run < p.count(1); run++) {
            int due = 0;
            for (int out : leftOut) {
                due = out == run ? 1 : due;
            }
            Check.due("made(" + run + ", 5)", due, p.made(run, 5));
        }
    }

    private static void noRuns() {
        Check.sentence("10: the mean of the runs, 0 if there are none; 12: .. 0 if there are no runs");
        PolarPlanimeter p = Given.loaded(TRIANGLE);
        Given.dueCount(p, 6, AREA);
        Given.dueCount(p, 10, 0);
        Given.dueCount(p, 11, 0);
        Given.dueCount(p, 12, 0);
        p.run(0, false);
        p.forget();
        Given.dueCount(p, 10, 0);
        Given.dueCount(p, 12, 0);
    }

    private static void oneRun() {
        Check.sentence("as long as there are more than 2 values left: one value");
        dueMean(runs(0, 100001), 100001);
        dueMean(runs(0, -201), -201);
        dueMean(runs(0, 0), 0);
    }

    private static void twoRunsAreKept() {
        Check.sentence("as long as there are more than 2 values left: two values are kept, however far");
        dueMean(runs(0, 0, 100000), 50000);
        dueMean(runs(0, 100000, 0), 50000);
    }

    private static void twoOfThreeAreLeft() {
        Check.sentence("as long as there are more than 2 values left: of three, one is left out at most");
        dueMean(runs(0, 0, 100, 1000), 50, 2);
        dueMean(runs(0, 1000, 0, 100), 50, 0);
    }

    private static void distanceAtTolerance() {
        Check.sentence("the greatest distance of a value .. is above the tolerance");
        dueMean(runs(200, 0, 200, 400), 200);
        dueMean(runs(200, 0, 200, 401), 100, 2);
        dueMean(runs(200, 0, -200, 200), 0);
        dueMean(runs(200, 0, -201, 200), 100, 1);
    }

    private static void toleranceAtFirst() {
        Check.sentence("the tolerance, at first 200");
        PolarPlanimeter p = runs(200, 0, 200, 401);
        p.setTolerance(201);
        dueMean(p, 601 / 3);
        p.undo();
        dueMean(p, 100, 2);
    }

    private static void leastTolerance() {
        Check.sentence("the tolerance (0 to 100000): 0");
        dueMean(runs(0, 10, 10, 10), 10);
        dueMean(runs(0, 10, 10, 10, 20), 10, 3);
        dueMean(runs(0, 20, 10, 10, 10), 10, 0);
        dueMean(runs(1, 1, 2, 3), 2);
        dueMean(runs(0, 1, 2, 3), 2, 0);
    }

    private static void greatestTolerance() {
        Check.sentence("the tolerance (0 to 100000): 100000");
        dueMean(runs(100000, 0, 100000, 0), 33333);
        dueMean(runs(100000, 0, 100001, 0), 0, 1);
        dueMean(runs(99999, 0, 100000, 0), 0, 1);
    }

    /** From 10 the greatest distance is 25, from 20 it would be 20. */
    private static void middleOfAnEvenNumber() {
        Check.sentence("The middle one of n values in ascending order has the index (n - 1) / 2");
        dueMean(runs(24, 0, 10, 20, 35), 10, 3);
        dueMean(runs(25, 35, 20, 10, 0), 16);
        dueMean(runs(24, 35, 20, 10, 0), 10, 0);
    }

    /** From 100 of all five, 50 of those left: 200 is 150 from it; then 0 and 100 are 50 from it. */
    private static void middleOfThoseLeft() {
        Check.sentence("the middle one of those that are left");
        dueMean(runs(120, 0, 50, 100, 200, 1000), 50, 3, 4);
        dueMean(runs(149, 1000, 200, 100, 50, 0), 50, 0, 1);
        dueMean(runs(150, 1000, 200, 100, 50, 0), 350 / 4, 0);
    }

    private static void lowestOfSeveral() {
        Check.sentence("of several the one of the run with the lowest number");
        dueMean(runs(199, 0, 200, 400), 300, 0);
        dueMean(runs(199, 400, 200, 0), 100, 0);
        dueMean(runs(199, 200, 400, 0), 100, 1);
        dueMean(runs(199, 200, 0, 400), 300, 1);
    }

    /** The middle one is 0 of 0, 0, 100, 100, and 100 of 0, 0, 100, 100, 100. */
    private static void lowestOfEqualOnes() {
        Check.sentence("of several the one of the run with the lowest number, if they are equal");
        dueMean(runs(0, 0, 100, 0, 100), 0, 1, 3);
        dueMean(runs(0, 100, 0, 100, 0, 100), 100, 1, 3);
    }

    /** Ten of the twelve are left out, the ones far from the middle first. */
    private static void twelveRuns() {
        Check.sentence("the mean of 12 runs");
        dueMean(runs(0, 0, 1, 2, 3, 10, 20, 30, 35, 50, 100, 150, 200), 1, 0, 3, 4, 5, 6, 7, 8, 9, 10, 11);
        dueMean(runs(30, 0, 1, 2, 3, 10, 20, 30, 35, 50, 100, 150, 200), 66 / 7, 7, 8, 9, 10, 11);
        dueMean(runs(200, 200, 200, 200, 200, 200, 200, 200, 200, 200, 200, 200, 200), 200);
    }

    private static void truncatedMean() {
        Check.sentence("the sum of the values that are left, divided by their number, truncated toward 0");
        dueMean(runs(200, -1, 0), 0);
        dueMean(runs(200, -1, -2), -1);
        dueMean(runs(200, -2, -3), -2);
        dueMean(runs(200, 1, 2), 1);
        dueMean(runs(200, -1, -1, 0), 0);
        dueMean(runs(200, -3, -1, -1), -1);
    }

    private static void negativeDistance() {
        Check.sentence("the greatest distance: a value below the middle one is as far");
        dueMean(runs(200, 1, -201, 0), 0, 1);
        dueMean(runs(200, -200, 0, 1), -199 / 3);
    }

    /** The areas of the runs are 3242029 and 3242129. */
    private static void withConstant() {
        Check.sentence("a value (an area): with the constant");
        PolarPlanimeter p = Given.around();
        p.set(Given.TRACER, 1200);
        p.run(0, false);
        p.run(0, true);
        Given.dueCount(p, 10, (3242029 + 3242129) / 2);
        Given.dueCount(p, 12, (3242029 + 3242129) / 2 - 3240000);
    }

    private static void toleranceOfTheMoment() {
        Check.sentence("5: 1 if it is left out of the mean: with the tolerance that there is");
        PolarPlanimeter p = runs(0, 0, 200, 400);
        dueMean(p, 300, 0);
        p.setTolerance(200);
        dueMean(p, 200);
        p.setTolerance(199);
        dueMean(p, 300, 0);
        p.undo();
        p.undo();
        dueMean(p, 300, 0);
    }

    /** A new object each time, so that no other answer comes before the one that is looked at. */
    private static void eachNumberByItself() {
        Check.sentence("10: the mean of the runs; 11: runs that are left out of it; 12; 5: 1 if it is left out");
        Given.dueCount(runs(0, 0, 200, 400), 10, 300);
        Given.dueCount(runs(0, 0, 200, 400), 11, 1);
        Given.dueCount(runs(0, 0, 200, 400), 12, 300 - AREA);
        Check.due("made(0, 5)", 1, runs(0, 0, 200, 400).made(0, 5));
        Check.due("made(1, 5)", 0, runs(0, 0, 200, 400).made(1, 5));
        Check.dueBits("error()", -59700.0 / 60000.0, runs(0, 0, 200, 400).error());
    }

    private static void meanMinusArea() {
        Check.sentence("12: the mean minus the area of the outline");
        PolarPlanimeter p = runs(0, 0);
        Given.dueCount(p, 12, -60000);
        PolarPlanimeter clockwise = Given.loaded("300,300;500,600;700,300");
        for (int k = 0; k < 3; k++) {
            clockwise.setSlip(k, 100);
        }
        clockwise.run(2, true);
        Given.dueCount(clockwise, 10, 0);
        Given.dueCount(clockwise, 12, 60000);
    }
}

/** The edges that the document names in the promises of count, ifSet, leastArm and error. */
public final class WouldBeEdgesTest {
    private static final String TURN = "500,-600;493,-602;492,-601";
    private static final int[] LEAST = {200, 200, 20, 0, 0};
    private static final int[] GREATEST = {3000, 3000, 200, 1, 10000};

    private WouldBeEdgesTest() {
    }

    public static void main(String[] args) {
        countNumbers();
        countsOfNothing();
        countsOfFull();
        ifSetCorners();
        ifSetSettings();
        ifSetValues();
        ifSetExceptionsInOrder();
        ifSetTooFewCorners();
        ifSetOnOutline();
        ifSetOutOfReach();
        ifSetWithTwelveRuns();
        ifSetWithWhatIsSet();
        ifSetChangesNothing();
        leastArmWithoutCorners();
        leastArmIsLeast();
        leastArmIsGreatest();
        leastArmMultiples();
        leastArmOfNone();
        leastArmOfAllCorners();
        leastArmWithPresentStep();
        leastArmChangesNothing();
        errorWithoutRuns();
        errorWithoutArea();
        errorOfLeastArea();
        errorOfZero();
        errorAsDouble();
        errorChangesNothing();
        Check.end();
    }

    // ---- count

    private static void countNumbers() {
        Check.sentence("IllegalArgumentException if what is not 0 to 14");
        for (PolarPlanimeter p : new PolarPlanimeter[] {new PolarPlanimeter(), Given.full()}) {
            for (int what : new int[] {-1, 15, Given.MIN, Given.MAX}) {
                Check.argument("count(" + what + ")", () -> p.count(what));
            }
        }
    }

    private static void countsOfNothing() {
        Check.sentence("count of a new object: 7: the winding (0 without corners) ..");
        PolarPlanimeter p = new PolarPlanimeter();
        for (int what = 0; what < 15; what++) {
            Given.dueCount(p, what, what == 4 ? 200 : 0);
        }
    }

    private static void countsOfFull() {
        Check.sentence("count of a full object");
        PolarPlanimeter p = Given.full();
        Given.dueCount(p, 0, 20);
        Given.dueCount(p, 1, 12);
        Given.dueCount(p, 13, 19 + 8);
        Given.dueCount(p, 14, 6);
    }

    // ---- ifSet

    private static void ifSetCorners() {
        Check.sentence("ifSet: IndexOutOfBoundsException if there is no such corner");
        PolarPlanimeter none = new PolarPlanimeter();
        Check.index("ifSet(0, false, 4, 50) without corners", () -> none.ifSet(0, false, 4, 50));
        PolarPlanimeter p = Given.rectangle();
        for (int corner : new int[] {-1, 4, Given.MIN, Given.MAX}) {
            Check.index("ifSet(" + corner + ", false, 4, 50)", () -> p.ifSet(corner, false, 4, 50));
        }
        Check.due("ifSet(0, false, 4, 0)", 61387697, p.ifSet(0, false, 4, 0));
        Check.due("ifSet(3, true, 4, 0)", 61387697, p.ifSet(3, true, 4, 0));
    }

    private static void ifSetSettings() {
        Check.sentence("ifSet: IndexOutOfBoundsException if there is no such .. setting");
        PolarPlanimeter p = Given.rectangle();
        for (int setting : new int[] {-1, 5, Given.MIN, Given.MAX}) {
            Check.index("ifSet(0, false, " + setting + ", 200)", () -> p.ifSet(0, false, setting, 200));
        }
    }

    /** What it tells is what the run then has; out of reach, it is 0. */
    private static void ifSetValues() {
        Check.sentence("ifSet: IllegalArgumentException if value is out of range");
        for (int i = 0; i < 5; i++) {
            int setting = i;
            PolarPlanimeter p = Given.small(TURN);
            for (int value : new int[] {LEAST[i] - 1, GREATEST[i] + 1, Given.MIN, Given.MAX}) {
                Check.argument("ifSet(0, true, " + i + ", " + value + ")", () -> p.ifSet(0, true, setting, value));
            }
            for (int value : new int[] {LEAST[i], GREATEST[i]}) {
                long told = p.ifSet(0, true, i, value);
                p.set(i, value);
                long due = p.why(0, true) == 0 ? p.made(p.run(0, true), 2) : 0;
                Check.due("ifSet(0, true, " + i + ", " + value + ")", due, told);
            }
        }
        PolarPlanimeter p = Given.small(TURN);
        Check.due("ifSet(0, true, 4, 10000)", 0, p.ifSet(0, true, 4, 10000));
        Check.due("ifSet(0, true, 4, 0)", -2163, p.ifSet(0, true, 4, 0));
        Check.due("ifSet(1, false, 4, 1930)", -990323, p.ifSet(1, false, 4, 1930));
        Check.due("ifSet(1, true, 4, 1931)", 986509, p.ifSet(1, true, 4, 1931));
    }

    private static void ifSetExceptionsInOrder() {
        Check.sentence("If several exceptions apply, the one that is named first in the throws clause is thrown");
        PolarPlanimeter p = Given.rectangle();
        Check.index("ifSet(4, false, 0, 0)", () -> p.ifSet(4, false, 0, 0));
        Check.index("ifSet(0, false, 5, -1)", () -> p.ifSet(0, false, 5, -1));
        Check.index("ifSet(-1, false, -1, -1)", () -> p.ifSet(-1, false, -1, -1));
    }

    private static void ifSetTooFewCorners() {
        Check.sentence("0 if it would be refused for one of the reasons 1 to 3: 1");
        PolarPlanimeter p = Given.loaded("300,300;700,300;500,600");
        Check.due("with 3 corners, is it 0", 0, p.ifSet(2, false, 4, 0) == 0 ? 1 : 0);
        p.remove(1);
        Check.due("with 2 corners", 0, p.ifSet(1, false, 4, 0));
        p.remove(0);
        Check.due("with 1 corner", 0, p.ifSet(0, false, 4, 0));
    }

    private static void ifSetOnOutline() {
        Check.sentence("0 if it would be refused for one of the reasons 1 to 3: 2");
        PolarPlanimeter p = Given.small(TURN);
        p.set(Given.TRACER, 1200);
        p.setAnchor(500, -599);
        Check.due("with the anchor beside it", 0, p.ifSet(1, false, 4, 0) == 0 ? 1 : 0);
        p.setAnchor(500, -600);
        Check.due("with the anchor on it", 0, p.ifSet(1, false, 4, 0));
    }

    private static void ifSetOutOfReach() {
        Check.sentence("0 if it would be refused for one of the reasons 1 to 3: 3, with the other value");
        PolarPlanimeter p = Given.loaded("-100,180;100,180;0,900");
        p.set(Given.STEP, 200);
        Check.due("with the step of 200", 23784672, p.ifSet(0, false, Given.STEP, 200));
        Check.due("with the step of 199", 0, p.ifSet(0, false, Given.STEP, 199));
        p.set(Given.STEP, 199);
        Check.due("why with the step of 199", 3, p.why(0, false));
        Check.due("with the step of 200 again", 23784672, p.ifSet(0, false, Given.STEP, 200));
    }

    private static void ifSetWithTwelveRuns() {
        Check.sentence("0 if it would be refused for one of the reasons 1 to 3: not 4");
        PolarPlanimeter p = Given.rectangle();
        p.runAll();
        p.runAll();
        Check.due("why", 4, p.why(0, false));
        Check.due("ifSet(0, false, 4, 0)", 61387697, p.ifSet(0, false, 4, 0));
    }

    private static void ifSetWithWhatIsSet() {
        Check.sentence("what the sum of a run would be with another value: the slips stay");
        PolarPlanimeter p = Given.rectangle();
        Check.due("ifSet(0, false, 4, 50)", 61362097, p.ifSet(0, false, 4, 50));
        for (int k = 0; k < 4; k++) {
            p.setSlip(k, 33);
        }
        Check.due("ifSet(0, true, 4, 0)", 41129756, p.ifSet(0, true, 4, 0));
    }

    private static void ifSetChangesNothing() {
        Check.sentence("what would be; nothing is changed: ifSet");
        PolarPlanimeter p = Given.full();
        for (int i = 0; i < 5; i++) {
            p.ifSet(19, true, i, GREATEST[i]);
        }
        Given.dueSame("after them", p, Given::full, 4, Given.FULL_TEXT);
        PolarPlanimeter used = Given.used();
        for (int i = 0; i < 5; i++) {
            used.ifSet(3, true, i, LEAST[i]);
        }
        Given.dueSame("after them", used, Given::used, 0, Given.USED_TEXT);
    }

    // ---- leastArm

    private static void dueArm(int ax, int ay, int pole, int x, int y, int due) {
        PolarPlanimeter p = new PolarPlanimeter();
        p.setAnchor(ax, ay);
        p.set(Given.POLE, pole);
        p.insert(0, x, y);
        Check.due("leastArm() with " + x + ", " + y, due, p.leastArm());
    }

    private static void leastArmWithoutCorners() {
        Check.sentence("NONE if there is none, or there are no corners");
        PolarPlanimeter p = new PolarPlanimeter();
        Check.due("leastArm()", PolarPlanimeter.NONE, p.leastArm());
        p.insert(0, 1000, 0);
        Check.due("leastArm() with a corner", 200, p.leastArm());
        p.remove(0);
        Check.due("leastArm() without corners again", PolarPlanimeter.NONE, p.leastArm());
    }

    private static void leastArmIsLeast() {
        Check.sentence("of those that are multiples of 100, 200 to 3000: 200");
        dueArm(0, 0, 1200, 1000, 0, 200);
        dueArm(0, 0, 1200, 999, 0, 300);
        dueArm(-400, 0, 1200, 1000, 0, 200);
        dueArm(-401, 0, 1200, 1000, 0, 300);
        dueArm(0, 0, 200, 1, 0, 200);
    }

    /** From the anchor, 3000 and 1113 are 3199 units and a part, 3000 and 1114 are 3200 and a part. */
    private static void leastArmIsGreatest() {
        Check.sentence("of those that are multiples of 100, 200 to 3000: 3000");
        dueArm(-2000, -113, 200, 1000, 1000, 3000);
        dueArm(-2000, -114, 200, 1000, 1000, -1);
        dueArm(0, 0, 3000, 0, 1, 3000);
        dueArm(0, 0, 3000, 99, 0, 3000);
        dueArm(0, 0, 3000, 100, 0, 2900);
    }

    /** The root of 48000 and 304 is 48000, that of 48000 and 320 is 48001: fine units count. */
    private static void leastArmMultiples() {
        Check.sentence("the least value of setting 1, of those that are multiples of 100");
        dueArm(-2000, 0, 200, 1000, 0, 2800);
        dueArm(-2000, 0, 200, 1000, 19, 2800);
        dueArm(-2000, 0, 200, 1000, 20, 2900);
        dueArm(-2000, 0, 250, 1000, 0, 2800);
        dueArm(-2000, 0, 300, 1000, 0, 2700);
        dueArm(-2000, 0, 299, 1000, 0, 2800);
    }

    private static void leastArmOfNone() {
        Check.sentence("NONE if there is none: a corner at the anchor, and one beyond all arms");
        dueArm(0, 0, 1200, 0, 0, -1);
        dueArm(7, -8, 200, 7, -8, -1);
        dueArm(-2000, -2000, 200, 1000, 1000, -1);
        PolarPlanimeter near = Given.loaded("1000,1000;1000,1000;-1,-1");
        near.set(Given.POLE, 3000);
        Check.due("leastArm() of near and far points", 3000, near.leastArm());
        near.set(Given.STEP, 20);
        near.move(2, -1000, -1000);
        Check.due("leastArm() through the anchor", -1, near.leastArm());
    }

    private static void leastArmOfAllCorners() {
        Check.sentence("with which the whole outline is in reach");
        for (int k = 0; k < 3; k++) {
            PolarPlanimeter p = Given.loaded("1000,0;1000,0;1000,0");
            p.move(k, 950, 0);
            Check.due("leastArm() if the corner " + k + " is nearer", 300, p.leastArm());
            p.move(k, 1000, 1000);
            Check.due("leastArm() if the corner " + k + " is farther", 300, p.leastArm());
        }
    }

    private static void leastArmWithPresentStep() {
        Check.sentence("with the present pole arm and step");
        PolarPlanimeter p = Given.loaded("-100,180;100,180;0,900");
        p.set(Given.STEP, 200);
        Check.due("leastArm() with the step of 200", 1000, p.leastArm());
        p.set(Given.STEP, 199);
        Check.due("leastArm() with the step of 199", 1100, p.leastArm());
        p.set(Given.POLE, 1300);
        Check.due("leastArm() with the pole arm of 1300", 1200, p.leastArm());
    }

    private static void leastArmChangesNothing() {
        Check.sentence("what would be; nothing is changed: leastArm");
        PolarPlanimeter p = Given.full();
        p.leastArm();
        Check.due("setting(1)", 1000, p.setting(1));
        Given.dueSame("after it", p, Given::full, 4, Given.FULL_TEXT);
    }

    // ---- error

    private static PolarPlanimeter lost(String text) {
        return Given.lost(text, 1200, 1000);
    }

    private static void errorWithoutRuns() {
        Check.sentence("0.0 if there are no runs");
        Check.dueBits("error() of a new object", 0.0, new PolarPlanimeter().error());
        PolarPlanimeter p = lost("300,300;700,300;500,600");
        Check.dueBits("error() with an area", 0.0, p.error());
        p.run(0, false);
        Check.dueBits("error() with a run", -1.0, p.error());
        p.forget();
        Check.dueBits("error() of forgotten runs", 0.0, p.error());
        PolarPlanimeter clockwise = lost("300,300;500,600;700,300");
        Check.dueBits("error() with a negative area", 0.0, clockwise.error());
    }

    /** Half of 1 and of -1 is 0. */
    private static void errorWithoutArea() {
        Check.sentence("0.0 if .. that area is 0");
        String[] texts = {"300,300;700,300;500,300", "300,300;301,300;300,301", "300,300;300,301;301,300",
            "300,300;300,300;300,300"};
        for (String text : texts) {
            PolarPlanimeter p = Given.loaded(text);
            p.set(Given.PLAY, 0);
            p.run(0, false);
            Check.dueBits("error() of " + text, 0.0, p.error());
        }
        PolarPlanimeter flat = Given.loaded("300,300;700,300;500,300");
        flat.set(Given.PLAY, 10000);
        flat.run(1, false);
        Check.due("is the mean other than 0", 1, flat.count(12) != 0 ? 1 : 0);
        Check.dueBits("error() then", 0.0, flat.error());
    }

    private static void errorOfLeastArea() {
        Check.sentence("0.0 if .. that area is 0: not if it is 1 or -1");
        PolarPlanimeter one = lost("300,300;302,300;300,301");
        one.run(0, false);
        Check.dueBits("error() with the area 1", -1.0, one.error());
        PolarPlanimeter minusOne = lost("300,300;300,301;302,300");
        minusOne.run(0, false);
        Check.dueBits("error() with the area -1", -1.0, minusOne.error());
    }

    /** The constant of 146574 is the mean of the areas, and the area of the outline is 146574, too. */
    private static void errorOfZero() {
        Check.sentence("Returns count(12), as a double, divided by the area of the outline, as a double: 0");
        PolarPlanimeter p = Given.lost("-153,-239;153,-239;153,240;-153,240", 216, 216);
        p.run(0, false);
        Given.dueCount(p, 12, 0);
        Check.dueBits("error()", 0.0, p.error());
        PolarPlanimeter clockwise = Given.lost("-153,240;153,240;153,-239;-153,-239", 216, 216);
        clockwise.run(0, false);
        Given.dueCount(clockwise, 12, 0);
        Check.dueBits("error() of a negative area", -0.0, clockwise.error());
    }

    private static void errorAsDouble() {
        Check.sentence("Returns count(12), as a double, divided by the area of the outline, as a double");
        PolarPlanimeter p = Given.rectangle();
        p.run(0, false);
        Given.dueCount(p, 12, -153);
        Check.dueBits("error()", -0.001275, p.error());
        PolarPlanimeter around = Given.around();
        around.set(Given.TRACER, 1200);
        around.run(0, false);
        Check.dueBits("error() around the anchor", 2029.0 / 3240000.0, around.error());
    }

    private static void errorChangesNothing() {
        Check.sentence("what would be; nothing is changed: error");
        PolarPlanimeter p = Given.full();
        p.error();
        Given.dueSame("after it", p, Given::full, 4, Given.FULL_TEXT);
    }
}

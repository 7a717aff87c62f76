/** Each promise with ordinary inputs, the edges that the document names, and wrong inputs. */
public final class PromisesTest {
    private static final int MIN = Given.MIN;
    private static final int MAX = Given.MAX;
    private static final int PLAY = Given.PLAY;

    private PromisesTest() {
    }

    public static void main(String[] args) {
        newObject();
        setAnchor();
        set();
        setTolerance();
        insert();
        insertKeepsSlips();
        move();
        remove();
        setSlip();
        run();
        runReasons();
        runSums();
        runAll();
        forget();
        append();
        clearBuffer();
        firstError();
        load();
        loadRefuses();
        undo();
        undoKeepsSix();
        reason();
        corner();
        made();
        leftOut();
        elbow();
        elbowReach();
        count();
        winding();
        onOutline();
        setting();
        why();
        ifSet();
        leastArm();
        error();
        digest();
        digestOfErrors();
        Check.end();
    }

    // ---- what the tests share

    /** Makes a call that throws, and sees that nothing is changed by it. */
    private static void unchanged(PolarPlanimeter p, Runnable check) {
        long before = p.digest();
        check.run();
        Check.due("the digest after a call that throws", before, p.digest());
    }

    // ---- the promises

    private static void newObject() {
        PolarPlanimeter p = new PolarPlanimeter();
        long[] counts = {0, 0, 0, 0, 200, 0, 0, 0, 0, 0, 0, 0, 0, 0, 0};
        for (int what = 0; what < counts.length; what++) {
            Given.dueCount(p, what, counts[what]);
        }
        int[] settings = {1200, 1000, 50, 0, 50};
        for (int i = 0; i < settings.length; i++) {
            Check.due("setting(" + i + ")", settings[i], p.setting(i));
        }
        Check.due("reason of a new object", 0, p.reason());
        Check.due("the buffer of a new object", 0, p.clearBuffer());
    }

    private static void setAnchor() {
        PolarPlanimeter p = Given.rectangle();
        p.run(0, false);
        p.run(1, true);
        Check.due("setAnchor, runs forgotten", 2, p.setAnchor(-2000, 2000));
        Given.dueCount(p, 1, 0);
        Given.dueCount(p, 2, -2000);
        Given.dueCount(p, 3, 2000);
        Given.dueCount(p, 14, 4);
        Check.due("setAnchor, no runs", 0, p.setAnchor(2000, -2000));
        Given.dueCount(p, 2, 2000);
        Given.dueCount(p, 3, -2000);
        unchanged(p, () -> {
            Check.argument("setAnchor(2001, 0)", () -> p.setAnchor(2001, 0));
            Check.argument("setAnchor(-2001, 0)", () -> p.setAnchor(-2001, 0));
            Check.argument("setAnchor(0, 2001)", () -> p.setAnchor(0, 2001));
            Check.argument("setAnchor(0, -2001)", () -> p.setAnchor(0, -2001));
            Check.argument("setAnchor(MIN, 0)", () -> p.setAnchor(MIN, 0));
            Check.argument("setAnchor(0, MAX)", () -> p.setAnchor(0, MAX));
        });
        PolarPlanimeter same = Given.rectangle();
        same.run(0, false);
        Check.due("setAnchor to where it is", 1, same.setAnchor(0, 0));
    }

    private static void set() {
        int[] first = {1200, 1000, 50, 0, 50};
        int[] least = {200, 200, 20, 0, 0};
        int[] greatest = {3000, 3000, 200, 1, 10000};
        for (int i = 0; i < 5; i++) {
            PolarPlanimeter p = Given.rectangle();
            p.run(0, false);
            int setting = i;
            unchanged(p, () -> {
                Check.argument("set below", () -> p.set(setting, least[setting] - 1));
                Check.argument("set above", () -> p.set(setting, greatest[setting] + 1));
                Check.argument("set MIN", () -> p.set(setting, MIN));
                Check.argument("set MAX", () -> p.set(setting, MAX));
            });
            Check.due("set(" + i + ", the same)", first[i], p.set(i, first[i]));
            Given.dueCount(p, 1, 0);
            Given.dueCount(p, 14, 3);
            Check.due("set(" + i + ", least)", first[i], p.set(i, least[i]));
            Check.due("set(" + i + ", greatest)", least[i], p.set(i, greatest[i]));
            Check.due("setting(" + i + ")", greatest[i], p.setting(i));
        }
        PolarPlanimeter p = new PolarPlanimeter();
        unchanged(p, () -> {
            Check.index("set(5, 0)", () -> p.set(5, 0));
            Check.index("set(-1, MIN)", () -> p.set(-1, MIN));
            Check.index("set(MAX, MAX)", () -> p.set(MAX, MAX));
        });
    }

    private static void setTolerance() {
        PolarPlanimeter p = Given.rectangle();
        p.run(0, false);
        Check.due("setTolerance(0)", 200, p.setTolerance(0));
        Check.due("setTolerance(100000)", 0, p.setTolerance(100000));
        Check.due("setTolerance(7)", 100000, p.setTolerance(7));
        Given.dueCount(p, 4, 7);
        Given.dueCount(p, 1, 1);
        Given.dueCount(p, 14, 5);
        unchanged(p, () -> {
            Check.argument("setTolerance(-1)", () -> p.setTolerance(-1));
            Check.argument("setTolerance(100001)", () -> p.setTolerance(100001));
        });
    }

    private static void insert() {
        PolarPlanimeter p = new PolarPlanimeter();
        unchanged(p, () -> {
            Check.index("insert(1, ..) without corners", () -> p.insert(1, 2000, 0));
            Check.index("insert(-1, ..)", () -> p.insert(-1, 0, 0));
            Check.argument("insert x below", () -> p.insert(0, -1001, 0));
            Check.argument("insert x above", () -> p.insert(0, 1001, 0));
            Check.argument("insert y below", () -> p.insert(0, 0, -1001));
            Check.argument("insert y above", () -> p.insert(0, 0, 1001));
        });
        for (int i = 0; i < 20; i++) {
            Check.due("insert at the end", i + 1, p.insert(i, 50 * i - 1000, 1000));
        }
        unchanged(p, () -> {
            Check.state("insert the 21st", () -> p.insert(20, 0, 0));
            Check.state("insert the 21st in front", () -> p.insert(0, 0, 0));
            Check.argument("insert the 21st out of range", () -> p.insert(0, 0, 1001));
            Check.index("insert behind the end", () -> p.insert(21, 0, 1001));
        });
        for (int i = 0; i < 20; i++) {
            Given.dueCorner(p, i, 50 * i - 1000, 1000, 0);
        }
        Given.dueCount(p, 14, 6);
    }

    private static void insertKeepsSlips() {
        PolarPlanimeter p = Given.rectangle();
        for (int k = 0; k < 4; k++) {
            p.setSlip(k, 10 + k);
        }
        p.run(2, false);
        Check.due("insert in the middle", 5, p.insert(2, 800, 500));
        Given.dueCount(p, 1, 0);
        Given.dueCorner(p, 1, 700, 300, 11);
        Given.dueCorner(p, 2, 800, 500, 0);
        Given.dueCorner(p, 3, 700, 600, 12);
        Given.dueCorner(p, 4, 300, 600, 13);
        Check.due("insert in front", 6, p.insert(0, -1, -2));
        Given.dueCorner(p, 0, -1, -2, 0);
        Given.dueCorner(p, 1, 300, 300, 10);
        Given.dueCorner(p, 5, 300, 600, 13);
        Check.due("insert at the end", 7, p.insert(6, 9, 8));
        Given.dueCorner(p, 5, 300, 600, 13);
        Given.dueCorner(p, 6, 9, 8, 0);
    }

    private static void move() {
        PolarPlanimeter p = Given.rectangle();
        p.setSlip(3, 40);
        p.run(0, false);
        p.run(0, true);
        Check.due("move to where it is", 2, p.move(3, 300, 600));
        Check.due("move", 0, p.move(3, -1000, 1000));
        Given.dueCorner(p, 3, -1000, 1000, 40);
        Given.dueCorner(p, 2, 700, 600, 0);
        Given.dueCount(p, 14, 6);
        unchanged(p, () -> {
            Check.index("move(4, ..)", () -> p.move(4, 5000, 0));
            Check.index("move(-1, ..)", () -> p.move(-1, 0, 0));
            Check.argument("move x above", () -> p.move(0, 1001, 0));
            Check.argument("move x below", () -> p.move(0, -1001, 0));
            Check.argument("move y above", () -> p.move(0, 0, 1001));
            Check.argument("move y below", () -> p.move(0, 0, -1001));
        });
    }

    private static void remove() {
        PolarPlanimeter p = Given.rectangle();
        for (int k = 0; k < 4; k++) {
            p.setSlip(k, 10 + k);
        }
        p.run(0, false);
        Check.due("remove(1)", 3, p.remove(1));
        Given.dueCount(p, 1, 0);
        Given.dueCorner(p, 0, 300, 300, 10);
        Given.dueCorner(p, 1, 700, 600, 12);
        Given.dueCorner(p, 2, 300, 600, 13);
        unchanged(p, () -> {
            Check.index("remove(3)", () -> p.remove(3));
            Check.index("remove(-1)", () -> p.remove(-1));
        });
        Check.due("remove the last one", 2, p.remove(2));
        Check.due("remove the first one", 1, p.remove(0));
        Given.dueCorner(p, 0, 700, 600, 12);
        Check.due("remove the only one", 0, p.remove(0));
        Check.index("remove(0) without corners", () -> p.remove(0));
        p.undo();
        Given.dueCorner(p, 0, 700, 600, 12);
    }

    private static void setSlip() {
        PolarPlanimeter p = Given.rectangle();
        p.run(0, false);
        long sum = p.made(0, 2);
        Check.due("setSlip(1, 30)", 0, p.setSlip(1, 30));
        Check.due("setSlip(1, 100)", 30, p.setSlip(1, 100));
        Check.due("setSlip(1, 0)", 100, p.setSlip(1, 0));
        p.setSlip(3, 77);
        Given.dueCorner(p, 1, 700, 300, 0);
        Given.dueCorner(p, 3, 300, 600, 77);
        Given.dueCount(p, 1, 1);
        Check.due("the sum of a run that was made", sum, p.made(0, 2));
        Given.dueCount(p, 14, 6);
        unchanged(p, () -> {
            Check.index("setSlip(4, 101)", () -> p.setSlip(4, 101));
            Check.index("setSlip(-1, 0)", () -> p.setSlip(-1, 0));
            Check.argument("setSlip(0, 101)", () -> p.setSlip(0, 101));
            Check.argument("setSlip(0, -1)", () -> p.setSlip(0, -1));
        });
    }

    private static void run() {
        PolarPlanimeter p = Given.rectangle();
        for (int i = 0; i < 12; i++) {
            Check.due("run", i, p.run(i % 4, i % 2 == 1));
        }
        Check.due("reason after a run", 0, p.reason());
        Check.index("run(4, ..)", () -> p.run(4, false));
        Check.due("reason after a wrong corner", 0, p.reason());
        Check.state("the 13th run", () -> p.run(0, false));
        Check.due("reason after the 13th run", 4, p.reason());
        Check.index("run(-1, ..)", () -> p.run(-1, true));
        Check.due("a wrong corner leaves the reason", 4, p.reason());
        Given.dueCount(p, 1, 12);
        Given.dueCount(p, 14, 6);
        p.undo();
        Given.dueCount(p, 1, 11);
        Check.due("run again", 11, p.run(1, false));
        Check.due("reason after it is made", 0, p.reason());
    }

    private static void runReasons() {
        PolarPlanimeter p = new PolarPlanimeter();
        Check.index("run(0, ..) without corners", () -> p.run(0, false));
        Check.due("reason", 0, p.reason());
        p.insert(0, 0, 0);
        p.insert(1, 100, 0);
        Check.state("run with two corners, the anchor on them", () -> p.run(0, false));
        Check.due("reason of too few corners", 1, p.reason());
        p.insert(2, 0, 100);
        p.set(0, 3000);
        p.set(1, 200);
        Check.state("run with the anchor on a corner", () -> p.run(2, true));
        Check.due("reason of the anchor, out of reach, too", 2, p.reason());
        p.setAnchor(-1, 0);
        long saved = p.count(14);
        Check.state("run out of reach", () -> p.run(1, true));
        Check.due("reason of the reach", 3, p.reason());
        Given.dueCount(p, 14, saved);
        Given.dueCount(p, 1, 0);
    }

    /** The sums are worked out with the parts that the document tells: rolls, slips and play. */
    private static void runSums() {
        PolarPlanimeter p = Given.rectangle();
        p.set(4, 0);
        long rolls = 0;
        for (int k = 0; k < 4; k++) {
            rolls += p.corner(k, 4);
        }
        Check.due("the first run without play", 0, p.run(2, false));
        Check.due("the sum without play is all rolls", rolls, p.made(0, 2));
        Check.due("all rolls", 61387697, rolls);
        p.set(4, 10000);
        p.run(0, false);
        Check.due("the sum lacks what is still in the play", rolls - 512 * 10000, p.made(0, 2));
        for (int k = 0; k < 4; k++) {
            p.setSlip(k, 100);
        }
        p.run(0, false);
        p.run(0, true);
        Check.due("the sum if all is lost", 0, p.made(1, 2));
        Check.due("the sum if all is lost, backward", 0, p.made(2, 2));
        PolarPlanimeter slips = Given.rectangle();
        slips.run(0, false);
        slips.run(1, false);
        slips.run(0, true);
        slips.run(3, true);
        long[] sums = {61362097, 61362097, 61387697, 61413297};
        for (int i = 0; i < 4; i++) {
            Check.due("the sum of run " + i, sums[i], slips.made(i, 2));
        }
        slips.setSlip(1, 30);
        slips.run(0, false);
        slips.run(0, true);
        Check.due("the sum with a slip", 64657079, slips.made(4, 2));
        Check.due("the sum with a slip, backward", 64682679, slips.made(5, 2));
    }

    private static void runAll() {
        PolarPlanimeter p = Given.rectangle();
        Check.due("runAll", 8, p.runAll());
        Check.due("reason after runAll", 0, p.reason());
        for (int i = 0; i < 8; i++) {
            Check.due("the corner of run " + i, i / 2, p.made(i, 0));
            Check.due("the direction of run " + i, i % 2, p.made(i, 1));
        }
        Given.dueCount(p, 14, 2);
        Check.due("runAll again", 4, p.runAll());
        Check.due("reason after runAll is full", 4, p.reason());
        Check.due("the corner of run 11", 1, p.made(11, 0));
        Given.dueCount(p, 14, 3);
        Check.due("runAll if it is full", 0, p.runAll());
        Given.dueCount(p, 14, 4);
        p.undo();
        p.undo();
        Given.dueCount(p, 1, 8);
        p.undo();
        Given.dueCount(p, 1, 0);
        Check.due("undo leaves the reason", 4, p.reason());
        PolarPlanimeter empty = new PolarPlanimeter();
        empty.insert(0, 5, 5);
        Check.due("runAll with one corner", 0, empty.runAll());
        Check.due("reason with one corner", 1, empty.reason());
        Given.dueCount(empty, 14, 2);
        empty.remove(0);
        Check.due("runAll without corners", 0, empty.runAll());
        Check.due("reason without corners", 0, empty.reason());
        Given.dueCount(empty, 14, 4);
    }

    private static void forget() {
        PolarPlanimeter p = Given.rectangle();
        p.runAll();
        Check.due("forget", 8, p.forget());
        Given.dueCount(p, 1, 0);
        Check.due("forget without runs", 0, p.forget());
        Given.dueCount(p, 14, 4);
        p.undo();
        p.undo();
        Given.dueCount(p, 1, 8);
    }

    private static void append() {
        PolarPlanimeter p = new PolarPlanimeter();
        Check.due("append(33)", 1, p.append(33));
        Check.due("append(126)", 2, p.append(126));
        unchanged(p, () -> {
            Check.argument("append(32)", () -> p.append(32));
            Check.argument("append(127)", () -> p.append(127));
            Check.argument("append(MIN)", () -> p.append(MIN));
        });
        for (int i = 3; i <= 60; i++) {
            Check.due("append", i, p.append('1'));
        }
        unchanged(p, () -> {
            Check.state("append the 61st", () -> p.append('1'));
            Check.argument("append the 61st, a wrong one", () -> p.append(127));
        });
        Given.dueCount(p, 14, 0);
        Check.due("the length", 60, p.clearBuffer());
    }

    private static void clearBuffer() {
        PolarPlanimeter p = new PolarPlanimeter();
        Check.due("clearBuffer, empty", 0, p.clearBuffer());
        Given.write(p, "1,2;");
        Check.due("clearBuffer", 4, p.clearBuffer());
        Check.due("clearBuffer again", 0, p.clearBuffer());
        Given.dueCount(p, 14, 0);
        Given.write(p, "7");
        Check.due("firstError of a new text", 1, p.firstError());
    }

    private static void dueError(String text, int want) {
        PolarPlanimeter p = new PolarPlanimeter();
        Given.write(p, text);
        Check.due("firstError of " + text, want, p.firstError());
        Check.due("the length after firstError", text.length(), p.clearBuffer());
    }

    private static void firstError() {
        dueError("", 0);
        dueError("0,0;0,0;0,0", 11);
        dueError("-1000,1000;-9,-99;999,10", 24);
        dueError("01", 1);
        dueError("-0", 1);
        dueError("1001", 3);
        dueError("1000", 4);
        dueError("10000", 4);
        dueError("999", 3);
        dueError("9990", 3);
        dueError("1010", 3);
        dueError("--1", 1);
        dueError("1-", 1);
        dueError("0-", 1);
        dueError("-", 1);
        dueError("-,", 1);
        dueError("-;", 1);
        dueError(",", 0);
        dueError(";", 0);
        dueError("5;", 1);
        dueError("5,5,", 3);
        dueError("5,;", 2);
        dueError("5,,", 2);
        dueError("5,5;;", 4);
        dueError("5,5;,", 4);
        dueError("5,-0", 3);
        dueError("5,00", 3);
        dueError("5,1001", 5);
        dueError("5,5;6,6", 7);
        dueError("5,5;6,6;", 8);
        dueError("x", 0);
        dueError("/", 0);
        dueError(":", 0);
        dueError("5,5;6,6;7,7~8", 11);
        dueError("0,0;0,0;0,0;0,0;0,0;0,0;0,0;0,0;0,0;0,0;0,0;0,0;0,0;0,0;0,0;", 60);
    }

    private static void load() {
        PolarPlanimeter p = Given.rectangle();
        p.setSlip(2, 50);
        p.run(0, false);
        Given.write(p, "-1000,0;0,-1;1000,1000");
        Check.due("load", 3, p.load());
        Given.dueCorner(p, 0, -1000, 0, 0);
        Given.dueCorner(p, 1, 0, -1, 0);
        Given.dueCorner(p, 2, 1000, 1000, 0);
        Given.dueCount(p, 1, 0);
        Given.dueCount(p, 14, 4);
        Check.due("the buffer after load", 0, p.clearBuffer());
        p.undo();
        Given.dueCorner(p, 2, 700, 600, 50);
        Given.dueCount(p, 1, 1);
        Check.due("undo leaves the buffer", 0, p.clearBuffer());
        Given.write(p, "0,0;0,0;0,0;0,0;0,0;0,0;0,0;0,0;0,0;0,0;0,0;0,0;0,0;0,0;9,10");
        Check.due("load the longest one", 15, p.load());
        Given.dueCorner(p, 14, 9, 10, 0);
    }

    private static void loadRefuses() {
        String[] texts = {"", "1,1", "1,1;2,2", "1,1;2,2;", "1,1;2,2;3", "1,1;2,2;3,", "1,1;2,2;-", "1,1;2,2;3,-",
            "1,1;2,2;3,03", "1,1;2,2;3,3;", "1,1;2,2;3,3;4", "1,1;2,2;3,3,", "1,1;2,2;3,1001", "x1,1;2,2;3,3"};
        for (String text : texts) {
            PolarPlanimeter p = Given.rectangle();
            p.run(0, true);
            Given.write(p, text);
            unchanged(p, () -> Check.argument("load of " + text, () -> p.load()));
            Check.due("the length of " + text, text.length(), p.clearBuffer());
        }
    }

    private static void undo() {
        PolarPlanimeter p = new PolarPlanimeter();
        Check.state("undo of a new object", () -> p.undo());
        p.setAnchor(5, 6);
        p.set(1, 900);
        p.setTolerance(3);
        p.insert(0, 7, 8);
        p.setSlip(0, 9);
        Given.write(p, "12");
        Check.due("undo setSlip", 4, p.undo());
        Given.dueCorner(p, 0, 7, 8, 0);
        Check.due("undo insert", 3, p.undo());
        Given.dueCount(p, 0, 0);
        Check.due("undo setTolerance", 2, p.undo());
        Given.dueCount(p, 4, 200);
        Check.due("setting before undo", 900, p.setting(1));
        Check.due("undo set", 1, p.undo());
        Check.due("setting after undo", 1000, p.setting(1));
        Given.dueCount(p, 2, 5);
        Check.due("undo setAnchor", 0, p.undo());
        Given.dueCount(p, 2, 0);
        Given.dueCount(p, 3, 0);
        Check.due("undo leaves the buffer", 2, p.firstError());
        unchanged(p, () -> Check.state("undo of everything", () -> p.undo()));
    }

    private static void undoKeepsSix() {
        PolarPlanimeter p = new PolarPlanimeter();
        for (int i = 1; i <= 9; i++) {
            p.setTolerance(i);
        }
        Given.dueCount(p, 14, 6);
        for (int i = 8; i >= 3; i--) {
            Check.due("undo", i - 3, p.undo());
            Given.dueCount(p, 4, i);
        }
        Check.state("undo of a dropped state", () -> p.undo());
        p.setTolerance(50);
        p.undo();
        Given.dueCount(p, 4, 3);
    }

    private static void reason() {
        PolarPlanimeter p = Given.rectangle();
        p.setAnchor(500, 300);
        Check.due("why leaves the reason", 2, p.why(0, false));
        Check.due("reason", 0, p.reason());
        Check.due("runAll", 0, p.runAll());
        Check.due("reason of runAll", 2, p.reason());
        p.setAnchor(0, 0);
        Check.due("a change leaves the reason", 2, p.reason());
        p.undo();
        Check.due("undo leaves the reason", 2, p.reason());
        p.undo();
        p.undo();
        p.run(0, false);
        Check.due("a run clears the reason", 0, p.reason());
    }

    private static void corner() {
        PolarPlanimeter p = Given.rectangle();
        long[] rolls = {177143901, -10983271, -157298687, 52525754};
        long[] steps = {8, 6, 8, 6};
        for (int k = 0; k < 4; k++) {
            Check.due("the steps of " + k, steps[k], p.corner(k, 3));
            Check.due("the roll of " + k, rolls[k], p.corner(k, 4));
            Check.due("the reach of " + k, 1, p.corner(k, 5));
        }
        p.setSlip(0, 60);
        Check.due("the roll is without slip", 177143901, p.corner(0, 4));
        unchanged(p, () -> {
            Check.index("corner(4, 6)", () -> p.corner(4, 6));
            Check.index("corner(-1, 0)", () -> p.corner(-1, 0));
            Check.argument("corner(0, 6)", () -> p.corner(0, 6));
            Check.argument("corner(0, -1)", () -> p.corner(0, -1));
        });
        PolarPlanimeter far = Given.loaded("800,0;1000,0;800,0;800,0;851,0");
        far.setAnchor(-1200, 0);
        long[] reach = {1, 1, 1, 1, 1};
        long[] farSteps = {4, 4, 1, 2, 2};
        for (int k = 0; k < 5; k++) {
            Check.due("the reach at its end, " + k, reach[k], far.corner(k, 5));
            Check.due("the steps, " + k, farSteps[k], far.corner(k, 3));
        }
        far.setAnchor(-1201, 0);
        for (int k = 0; k < 5; k++) {
            Check.due("the reach behind its end, " + k, k < 2 ? 0 : 1, far.corner(k, 5));
            if (k < 2) {
                Check.due("the roll out of reach, " + k, 0, far.corner(k, 4));
            }
        }
        Check.due("the roll of a step that stays", 0, far.corner(2, 4));
    }

    private static void made() {
        PolarPlanimeter p = Given.rectangle();
        p.run(3, true);
        p.run(1, false);
        long[][] due = {{3, 1, 61413297, 119, 119947, 0}, {1, 0, 61362097, 119, 119847, 0}};
        for (int run = 0; run < 2; run++) {
            for (int what = 0; what < 6; what++) {
                Check.due("made(" + run + ", " + what + ")", due[run][what], p.made(run, what));
            }
        }
        unchanged(p, () -> {
            Check.index("made(2, 6)", () -> p.made(2, 6));
            Check.index("made(-1, 0)", () -> p.made(-1, 0));
            Check.argument("made(0, 6)", () -> p.made(0, 6));
            Check.argument("made(0, -1)", () -> p.made(0, -1));
        });
        PolarPlanimeter around = Given.around();
        around.set(1, 1200);
        around.setAnchor(100, 50);
        around.run(0, false);
        long sum = around.made(0, 2);
        Check.due("the area with the constant", sum / 512 + 4523893, around.made(0, 4));
        Check.due("the reading has no constant", sum / (512 * 1200), around.made(0, 3));
    }

    private static void leftOut() {
        PolarPlanimeter p = Given.rectangle();
        p.run(0, false);
        p.run(1, false);
        p.run(0, true);
        p.run(3, true);
        p.setSlip(1, 30);
        p.run(0, false);
        p.run(0, true);
        // the areas: 119847, 119847, 119897, 119947, 126283, 126333
        int[] left = {0, 0, 0, 0, 1, 1};
        for (int run = 0; run < 6; run++) {
            Check.due("left out, " + run, left[run], p.made(run, 5));
        }
        Given.dueCount(p, 10, (2 * 119847 + 119897 + 119947) / 4);
        Given.dueCount(p, 11, 2);
        p.setTolerance(100);
        Given.dueCount(p, 11, 2);
        p.setTolerance(99);
        Given.dueCount(p, 11, 3);
        Check.due("the greatest distance, left out", 1, p.made(3, 5));
        p.setTolerance(0);
        Given.dueCount(p, 11, 4);
        Check.due("the first one, not left out", 0, p.made(0, 5));
        Check.due("the second one, not left out", 0, p.made(1, 5));
        Given.dueCount(p, 10, 119847);
        p.setTolerance(6436);
        Given.dueCount(p, 11, 0);
        p.setTolerance(6435);
        Given.dueCount(p, 11, 1);
        Check.due("126333 is left out first", 1, p.made(5, 5));
        PolarPlanimeter equal = Given.rectangle();
        equal.run(0, true);
        equal.run(3, true);
        equal.run(0, false);
        // the areas: 119897, 119947, 119847; two lie 50 apart from the middle one
        equal.setTolerance(49);
        Check.due("of several, the lowest number", 1, equal.made(1, 5));
        Check.due("of several, not the other one", 0, equal.made(2, 5));
        Given.dueCount(equal, 11, 1);
    }

    private static void dueElbow(PolarPlanimeter p, int tx, int ty, long reached, long x, long y) {
        String at = "elbow(" + tx + ", " + ty + ", ";
        Check.due(at + "0)", reached, p.elbow(tx, ty, 0));
        Check.due(at + "1)", x, p.elbow(tx, ty, 1));
        Check.due(at + "2)", y, p.elbow(tx, ty, 2));
    }

    private static void elbow() {
        PolarPlanimeter p = new PolarPlanimeter();
        // p = 19200, l = 16000, r = 16000: a = 11520, h = 15360
        dueElbow(p, 16000, 0, 1, 11520, 15360);
        dueElbow(p, 0, 16000, 1, -15360, 11520);
        dueElbow(p, -16000, 0, 1, -11520, -15360);
        p.set(3, 1);
        dueElbow(p, 16000, 0, 1, 11520, -15360);
        p.setAnchor(-100, 50);
        dueElbow(p, 14400, 800, 1, 9920, -14560);
        unchanged(p, () -> {
            Check.argument("elbow(40001, 0, 0)", () -> p.elbow(40001, 0, 0));
            Check.argument("elbow(-40001, 0, 0)", () -> p.elbow(-40001, 0, 0));
            Check.argument("elbow(0, 40001, 0)", () -> p.elbow(0, 40001, 0));
            Check.argument("elbow(0, -40001, 0)", () -> p.elbow(0, -40001, 0));
            Check.argument("elbow(0, 0, 3)", () -> p.elbow(0, 0, 3));
            Check.argument("elbow(0, 0, -1)", () -> p.elbow(0, 0, -1));
        });
        dueElbow(p, 40000, 40000, 0, 0, 0);
        dueElbow(p, -40000, -40000, 0, 0, 0);
    }

    private static void elbowReach() {
        PolarPlanimeter p = new PolarPlanimeter();
        dueElbow(p, 35200, 0, 1, 19200, 0);
        dueElbow(p, 35201, 0, 0, 0, 0);
        Check.due("the root is 35200", 1, p.elbow(35200, 265, 0));
        Check.due("the root is 35201", 0, p.elbow(35200, 266, 0));
        dueElbow(p, 3200, 0, 1, 19200, 0);
        dueElbow(p, 3199, 0, 0, 0, 0);
        Check.due("the root is 3200", 1, p.elbow(3199, 80, 0));
        Check.due("the root is 3199", 0, p.elbow(3199, 79, 0));
        p.set(0, 1000);
        p.set(1, 1200);
        Check.due("the arms the other way, in reach", 1, p.elbow(3200, 0, 0));
        Check.due("the arms the other way, too near", 0, p.elbow(3199, 0, 0));
        p.set(1, 1000);
        dueElbow(p, 0, 0, 0, 0, 0);
        dueElbow(p, 1, 0, 1, 0, 16000);
        dueElbow(p, 0, -1, 1, 16000, 0);
    }

    private static void count() {
        PolarPlanimeter p = Given.rectangle();
        p.run(0, false);
        p.run(1, false);
        p.run(0, true);
        p.run(3, true);
        long[] due = {4, 4, 0, 0, 200, 240000, 120000, 0, 0, 0, 119884, 0, -116, 28, 5};
        for (int what = 0; what < due.length; what++) {
            Given.dueCount(p, what, due[what]);
        }
        unchanged(p, () -> {
            Check.argument("count(15)", () -> p.count(15));
            Check.argument("count(-1)", () -> p.count(-1));
            Check.argument("count(MIN)", () -> p.count(MIN));
        });
        PolarPlanimeter clockwise = Given.loaded("0,0;0,3;1,0");
        Given.dueCount(clockwise, 5, -3);
        Given.dueCount(clockwise, 6, -1);
        Given.dueCount(clockwise, 12, 0);
        PolarPlanimeter one = new PolarPlanimeter();
        one.insert(0, 0, 0);
        Given.dueCount(one, 9, 1);
        Given.dueCount(one, 13, 1);
        one.insert(1, 1000, 1000);
        Given.dueCount(one, 13, 40);
        one.set(2, 20);
        Given.dueCount(one, 13, 100);
    }

    private static void winding() {
        PolarPlanimeter p = Given.around();
        Given.dueCount(p, 7, 1);
        Given.dueCount(p, 8, 4523893);
        p.set(0, 3000);
        Given.dueCount(p, 8, 355L * 9000000 / 113);
        p.setAnchor(901, 0);
        Given.dueCount(p, 7, 0);
        Given.dueCount(p, 8, 0);
        p.setAnchor(0, 901);
        Given.dueCount(p, 7, 0);
        PolarPlanimeter clockwise = Given.loaded("-900,-900;-900,900;900,900;900,-900");
        Given.dueCount(clockwise, 7, -1);
        Given.dueCount(clockwise, 8, -4523893);
        PolarPlanimeter twice = Given.loaded("9,-9;9,9;-9,9;-9,-9;8,-8;8,8;-8,8;-8,-8");
        Given.dueCount(twice, 7, 2);
        Given.dueCount(twice, 8, 2 * 4523893);
        PolarPlanimeter small = Given.loaded("1,0;0,1;-1,-1");
        Given.dueCount(small, 7, 1);
        PolarPlanimeter turned = Given.loaded("-1,-1;0,1;1,0");
        Given.dueCount(turned, 7, -1);
        PolarPlanimeter levelClockwise = Given.loaded("0,-9;-9,0;0,9;9,0");
        Given.dueCount(levelClockwise, 7, -1);
        turned.setAnchor(9, 0);
        Given.dueCount(turned, 7, 0);
        turned.setAnchor(-9, 0);
        Given.dueCount(turned, 7, 0);
        PolarPlanimeter level = Given.loaded("9,0;0,9;-9,0;0,-9");
        Given.dueCount(level, 7, 1);
    }

    private static void onOutline() {
        PolarPlanimeter p = Given.loaded("0,0;100,0;100,70;0,70");
        int[][] on = {{0, 0}, {100, 70}, {50, 0}, {100, 35}, {0, 1}, {99, 70}};
        int[][] off = {{50, 35}, {101, 0}, {-1, 0}, {100, 71}, {100, -1}, {0, 71}, {50, 1}};
        for (int[] at : on) {
            p.setAnchor(at[0], at[1]);
            Given.dueCount(p, 9, 1);
        }
        for (int[] at : off) {
            p.setAnchor(at[0], at[1]);
            Given.dueCount(p, 9, 0);
        }
        PolarPlanimeter slanted = Given.loaded("-20,-10;20,10;500,500");
        Given.dueCount(slanted, 9, 1);
        slanted.setAnchor(0, 1);
        Given.dueCount(slanted, 9, 0);
        slanted.setAnchor(22, 11);
        Given.dueCount(slanted, 9, 0);
    }

    private static void setting() {
        PolarPlanimeter p = new PolarPlanimeter();
        int[] values = {201, 301, 21, 1, 401};
        for (int i = 0; i < 5; i++) {
            p.set(i, values[i]);
        }
        for (int i = 0; i < 5; i++) {
            Check.due("setting(" + i + ")", values[i], p.setting(i));
        }
        unchanged(p, () -> {
            Check.index("setting(5)", () -> p.setting(5));
            Check.index("setting(-1)", () -> p.setting(-1));
        });
    }

    private static void why() {
        PolarPlanimeter p = new PolarPlanimeter();
        Check.index("why(0, ..) without corners", () -> p.why(0, false));
        p.insert(0, 300, 300);
        p.insert(1, 300, 300);
        Check.due("why, too few corners", 1, p.why(1, true));
        p.insert(2, 300, 300);
        Check.due("why, three corners at one point", 0, p.why(2, true));
        p.setAnchor(300, 300);
        Check.due("why, the anchor on it", 2, p.why(0, false));
        p.setAnchor(-2000, 0);
        Check.due("why, out of reach", 3, p.why(0, false));
        Check.due("why leaves the reason", 0, p.reason());
        Check.index("why(3, ..)", () -> p.why(3, false));
        Check.index("why(-1, ..)", () -> p.why(-1, false));
        PolarPlanimeter full = Given.rectangle();
        full.runAll();
        full.runAll();
        Check.due("why, 12 runs", 4, full.why(0, true));
        Given.dueCount(full, 14, 3);
    }

    private static void ifSet() {
        PolarPlanimeter p = Given.rectangle();
        p.runAll();
        p.runAll();
        long before = p.digest();
        Check.due("ifSet with what is set", 61362097, p.ifSet(0, false, 4, 50));
        Check.due("ifSet, backward", 61413297, p.ifSet(3, true, 0, 1200));
        Check.due("ifSet without play", 61387697, p.ifSet(2, false, 4, 0));
        Check.due("ifSet out of reach", 0, p.ifSet(0, false, 1, 200));
        Check.due("ifSet with a long pole arm", 0, p.ifSet(0, false, 0, 3000));
        Check.due("ifSet changes nothing", before, p.digest());
        for (int i = 0; i < 5; i++) {
            int[] values = {1300, 900, 33, 1, 7};
            long told = p.ifSet(2, true, i, values[i]);
            p.set(i, values[i]);
            p.run(2, true);
            Check.due("the sum with setting " + i, p.made(0, 2), told);
            p.undo();
            p.undo();
        }
        unchanged(p, () -> {
            Check.index("ifSet(4, ..)", () -> p.ifSet(4, false, 0, 0));
            Check.index("ifSet(-1, ..)", () -> p.ifSet(-1, false, 0, 200));
            Check.index("ifSet(.., 5, 0)", () -> p.ifSet(0, false, 5, 0));
            Check.index("ifSet(.., -1, MIN)", () -> p.ifSet(0, false, -1, MIN));
            Check.argument("ifSet(.., 0, 199)", () -> p.ifSet(0, false, 0, 199));
            Check.argument("ifSet(.., 4, 10001)", () -> p.ifSet(0, true, 4, 10001));
        });
        p.setAnchor(300, 300);
        Check.due("ifSet with the anchor on it", 0, p.ifSet(0, false, 4, 50));
        p.setAnchor(0, 0);
        p.remove(0);
        p.remove(0);
        Check.due("ifSet with two corners", 0, p.ifSet(0, false, 4, 50));
    }

    private static void leastArm() {
        PolarPlanimeter p = new PolarPlanimeter();
        Check.due("leastArm without corners", -1, p.leastArm());
        p.insert(0, 1000, 0);
        Check.due("leastArm, one corner, 1200 - 1000", 200, p.leastArm());
        p.move(0, 999, 0);
        Check.due("leastArm, one corner, 1200 - 999", 300, p.leastArm());
        p.move(0, 0, 0);
        Check.due("leastArm at the anchor", -1, p.leastArm());
        p.move(0, 1000, 0);
        p.set(0, 200);
        p.setAnchor(-2000, 0);
        Check.due("leastArm, 3000 - 200", 2800, p.leastArm());
        p.setAnchor(-2000, 2000);
        Check.due("leastArm, no arm is long enough", -1, p.leastArm());
        PolarPlanimeter around = Given.around();
        around.setAnchor(100, 50);
        // from 800 to 1379 away: 1200 - 800 is needed; with a corner 111 away, 1200 - 111
        Check.due("leastArm around the anchor", 400, around.leastArm());
        around.insert(4, 0, 0);
        Check.due("leastArm with a corner near the anchor", 1100, around.leastArm());
        around.remove(4);
        Check.due("leastArm changes nothing", 1000, around.setting(1));
        around.set(0, 3000);
        Check.due("leastArm with the longest pole arm", 2200, around.leastArm());
    }

    private static void error() {
        PolarPlanimeter p = Given.rectangle();
        Check.dueBits("error without runs", 0.0, p.error());
        p.run(0, false);
        p.run(1, false);
        p.run(0, true);
        p.run(3, true);
        Check.dueBits("error", -116.0 / 120000.0, p.error());
        PolarPlanimeter flat = Given.loaded("300,300;700,300;500,300");
        flat.run(0, false);
        Check.dueBits("error without an area", 0.0, flat.error());
        PolarPlanimeter clockwise = Given.loaded("300,600;700,600;700,300;300,300");
        clockwise.run(0, false);
        Check.dueBits("error of a negative area", (double) (clockwise.made(0, 4) + 120000) / -120000.0, clockwise.error());
    }

    private static long hashOf(long... values) {
        long hash = 2113;
        for (long value : values) {
            hash = 31 * hash + value;
        }
        return hash;
    }

    private static void digest() {
        PolarPlanimeter p = new PolarPlanimeter();
        long[] fresh = {0, 0, 0, 0, 200, 0, 0, 0, 0, 0, 0, 0, 0, 0, 0, 1200, 1000, 50, 0, 50, -1, 0, 0, 0};
        Check.due("digest of a new object", hashOf(fresh), p.digest());
        p.insert(0, 1000, 5);
        p.runAll();
        Given.write(p, "!~");
        long[] one = {1, 0, 0, 0, 200, 0, 0, 0, 0, 0, 0, 0, 0, 1, 2, 1200, 1000, 50, 0, 50,
            1000, 5, 0, 1, 0, 1, 200, 0, 1, 2, 33, 126};
        Check.due("digest with a corner, a reason and a text", hashOf(one), p.digest());
        PolarPlanimeter r = Given.rectangle();
        r.run(0, false);
        long bits = Double.doubleToLongBits(-153.0 / 120000.0);
        long[] run = {4, 1, 0, 0, 200, 240000, 120000, 0, 0, 0, 119847, 0, -153, 28, 2, 1200, 1000, 50, 0, 50,
            300, 300, 0, 8, 177143901, 1, 700, 300, 0, 6, -10983271, 1,
            700, 600, 0, 8, -157298687, 1, 300, 600, 0, 6, 52525754, 1,
            0, 0, 61362097, 119, 119847, 0, r.leastArm(), bits, 0, 0};
        Check.due("digest with a run", hashOf(run), r.digest());
    }

    private static void dueDigest(String what, PolarPlanimeter p) {
        Check.due("digest, " + what, Given.hash(Given.values(p, p.reason(), "")), p.digest());
    }

    /** If all is lost by slips, the area of a run is the constant alone: so errors can be chosen. */
    private static void dueErrorOfConstant(String outline, int pole, int tracer, double want) {
        PolarPlanimeter p = Given.lost(outline, pole, tracer);
        p.run(0, false);
        Check.dueBits("error of " + outline, want, p.error());
        dueDigest("error of " + outline, p);
    }

    private static void digestOfErrors() {
        dueErrorOfConstant("-64,-281;64,-281;64,281;-64,281", 214, 214, 1.0);
        dueErrorOfConstant("-51,-239;51,-239;51,240;-51,240", 216, 216, 2.0);
        dueErrorOfConstant("-53,-137;53,-137;53,137;-53,137", 215, 215, 4.0);
        dueErrorOfConstant("-51,-479;51,-479;51,479;-51,479", 216, 266, 0.5);
        dueErrorOfConstant("-153,-239;153,-239;153,240;-153,240", 216, 216, 0.0);
        dueErrorOfConstant("-153,240;153,240;153,-239;-153,-239", 216, 216, -0.0);
        dueErrorOfConstant("300,300;700,300;700,600;300,600", 1200, 1000, -1.0);
        dueErrorOfConstant("300,300;302,300;301,301", 1200, 1000, -1.0);
        dueErrorOfConstant("300,300;301,301;302,300", 1200, 1000, -1.0);
        PolarPlanimeter flat = Given.loaded("300,300;700,300;500,300");
        flat.set(PLAY, 10000);
        flat.run(1, false);
        Check.due("the mean of a flat outline is below 0", 1, flat.count(10) < 0 ? 1 : 0);
        dueDigest("a flat outline", flat);
        PolarPlanimeter small = Given.loaded("300,300;302,300;301,301");
        small.run(0, false);
        small.run(2, true);
        dueDigest("a small outline", small);
        small.run(1, true);
        small.setTolerance(0);
        small.runAll();
        dueDigest("a small outline with all runs", small);
    }
}

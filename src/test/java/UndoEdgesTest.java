import java.util.List;
import java.util.function.Consumer;

/** The edges that the document names in "Undo", and in the promise of undo. */
public final class UndoEdgesTest {
    private UndoEdgesTest() {
    }

    public static void main(String[] args) {
        nothingSaved();
        everyUndoableCallSavesOnce();
        unchangedValuesAreSaved();
        otherCallsSaveNothing();
        refusedRunSavesNothing();
        refusedRunAllSaves();
        restoresEverything();
        restoresForgottenRuns();
        restoresReplacedRun();
        restoresFromFull();
        leavesBuffer();
        leavesReason();
        undoIsNotUndoable();
        sixStates();
        oldestIsDropped();
        dropsOneAfterAnother();
        savesAgainAfterUndo();
        lastCall();
        Check.end();
    }

    private static void nothingSaved() {
        Check.sentence("IllegalStateException if there is none");
        PolarPlanimeter p = new PolarPlanimeter();
        Given.dueCount(p, 14, 0);
        Check.state("undo() of a new object", () -> p.undo());
        p.setTolerance(1);
        Check.due("undo()", 0, p.undo());
        Check.state("undo() of all", () -> p.undo());
        Given.dueCount(p, 4, 200);
        Given.dueSame("after them", p, PolarPlanimeter::new, 0, "");
    }

    // ---- what is saved

    /** One state more, and undo brings all back as it was. */
    private static void dueSaved(String name, Consumer<PolarPlanimeter> call) {
        PolarPlanimeter p = base();
        long saved = p.count(14);
        call.accept(p);
        Check.due("count(14) after " + name, saved + 1, p.count(14));
        String text = name.equals("load()") ? "" : BASE_TEXT;
        Check.due("undo() of " + name, saved, p.undo());
        Given.dueSame("after undo() of " + name, p, UndoEdgesTest::base, p.reason(), text);
    }

    private static final String BASE_TEXT = "5,6;7,8;9,10";

    /** One state is saved, and there are runs. */
    private static PolarPlanimeter base() {
        PolarPlanimeter p = Given.rectangle();
        p.runAll();
        p.run(3, true);
        p.undo();
        Given.write(p, BASE_TEXT);
        return p;
    }

    private static void everyUndoableCallSavesOnce() {
        Check.sentence("Each method that is marked \"undoable\" .. saves the state from before it");
        dueSaved("setAnchor(3, 4)", p -> p.setAnchor(3, 4));
        dueSaved("set(0, 1300)", p -> p.set(0, 1300));
        dueSaved("set(1, 1300)", p -> p.set(1, 1300));
        dueSaved("set(2, 30)", p -> p.set(2, 30));
        dueSaved("set(3, 1)", p -> p.set(3, 1));
        dueSaved("set(4, 0)", p -> p.set(4, 0));
        dueSaved("setTolerance(0)", p -> p.setTolerance(0));
        dueSaved("insert(0, 1, 2)", p -> p.insert(0, 1, 2));
        dueSaved("insert(4, 1, 2)", p -> p.insert(4, 1, 2));
        dueSaved("move(3, 1, 2)", p -> p.move(3, 1, 2));
        dueSaved("remove(0)", p -> p.remove(0));
        dueSaved("remove(3)", p -> p.remove(3));
        dueSaved("setSlip(3, 100)", p -> p.setSlip(3, 100));
        dueSaved("run(3, true)", p -> p.run(3, true));
        dueSaved("runAll()", p -> p.runAll());
        dueSaved("forget()", p -> p.forget());
        dueSaved("load()", p -> p.load());
    }

    private static void unchangedValuesAreSaved() {
        Check.sentence("saves the state from before it, also if nothing is changed");
        dueSaved("setAnchor(0, 0)", p -> p.setAnchor(0, 0));
        dueSaved("set(4, 50)", p -> p.set(4, 50));
        dueSaved("setTolerance(200)", p -> p.setTolerance(200));
        dueSaved("move(0, 300, 300)", p -> p.move(0, 300, 300));
        dueSaved("setSlip(0, 0)", p -> p.setSlip(0, 0));
        PolarPlanimeter none = new PolarPlanimeter();
        none.forget();
        Given.dueCount(none, 14, 1);
        none.runAll();
        Given.dueCount(none, 14, 2);
    }

    private static void otherCallsSaveNothing() {
        Check.sentence("methods that are not marked \"undoable\" save nothing");
        PolarPlanimeter p = base();
        p.append('0');
        p.firstError();
        p.reason();
        p.corner(0, 4);
        p.made(0, 5);
        p.elbow(16000, 0, 1);
        p.count(10);
        p.setting(0);
        p.why(0, false);
        p.ifSet(0, false, 0, 1300);
        p.leastArm();
        p.error();
        p.digest();
        Given.dueSame("after them", p, UndoEdgesTest::base, 0, BASE_TEXT.concat("0"));
        PolarPlanimeter cleared = base();
        cleared.clearBuffer();
        Given.dueSame("after clearBuffer()", cleared, UndoEdgesTest::base, 0, "");
    }

    private static void refusedRunSavesNothing() {
        Check.sentence("and does not throw an exception");
        PolarPlanimeter p = Given.corners(2);
        Check.state("run(0, false)", () -> p.run(0, false));
        Given.dueCount(p, 14, 2);
        Check.index("run(2, false)", () -> p.run(2, false));
        Given.dueCount(p, 14, 2);
        Given.dueSame("after them", p, () -> Given.corners(2), 1, "");
    }

    private static void refusedRunAllSaves() {
        Check.sentence("Undoable, as one call, also if the first one is refused");
        PolarPlanimeter p = Given.corners(2);
        p.runAll();
        Given.dueCount(p, 14, 3);
        p.undo();
        Given.dueSame("after undo() of it", p, () -> Given.corners(2), 1, "");
    }

    // ---- what is restored

    private static void restoresEverything() {
        Check.sentence("Restores the latest saved state: everything in it is other than at first");
        PolarPlanimeter p = Given.used();
        List<Long> before = Given.values(p, 0, "");
        p.setAnchor(1, 2);
        p.set(Given.POLE, 1000);
        p.setTolerance(5);
        p.move(0, 9, 9);
        p.remove(3);
        for (int left = 5; left >= 1; left--) {
            Check.due("undo()", left, p.undo());
        }
        before.set(14, 1L);
        Check.same("what can be seen", before.toString(), Given.values(p, 0, "").toString());
    }

    private static void restoresForgottenRuns() {
        Check.sentence("Restores the latest saved state, with its runs");
        PolarPlanimeter p = Given.rectangle();
        for (int run = 0; run < 12; run++) {
            p.run(run % 4, run % 3 == 0);
        }
        long digest = p.digest();
        p.forget();
        p.run(3, false);
        p.undo();
        p.undo();
        Given.dueCount(p, 1, 12);
        for (int run = 0; run < 12; run++) {
            Check.due("where run " + run + " began", run % 4, p.made(run, 0));
            Check.due("the direction of run " + run, run % 3 == 0 ? 1 : 0, p.made(run, 1));
        }
        Given.dueCount(p, 14, 4);
        p.setTolerance(200);
        p.setTolerance(200);
        Check.due("digest()", digest, p.digest());
    }

    private static void restoresReplacedRun() {
        Check.sentence("Restores the latest saved state, with a run whose number another one had since");
        PolarPlanimeter p = Given.rectangle();
        p.run(0, true);
        p.forget();
        p.setSlip(1, 100);
        p.run(1, false);
        Check.due("is the sum another one", 1, p.made(0, 2) != 61387697 ? 1 : 0);
        for (int i = 0; i < 3; i++) {
            p.undo();
        }
        Check.due("made(0, 0)", 0, p.made(0, 0));
        Check.due("made(0, 1)", 1, p.made(0, 1));
        Check.due("made(0, 2)", 61387697, p.made(0, 2));
    }

    private static void restoresFromFull() {
        Check.sentence("Restores the latest saved state, of 20 corners");
        PolarPlanimeter p = Given.full();
        p.clearBuffer();
        Given.write(p, "1,1;2,2;3,3");
        p.load();
        Check.due("undo()", 5, p.undo());
        Given.dueCount(p, 0, 20);
        Given.dueCount(p, 1, 12);
        for (int k = 0; k < 20; k++) {
            Given.dueCorner(p, k, 400 + 20 * k, 300 + k % 2, k == 0 ? 100 : k == 19 ? 30 : 0);
        }
    }

    private static void leavesBuffer() {
        Check.sentence("(all but the buffer ..)");
        PolarPlanimeter p = new PolarPlanimeter();
        Given.write(p, "1,1;2,2;3,3");
        p.load();
        Given.write(p, "12");
        p.undo();
        Check.due("the length", 2, p.clearBuffer());
        p.setTolerance(1);
        Given.write(p, "123");
        p.undo();
        Check.due("digest()", Given.hash(Given.values(p, 0, "123")), p.digest());
        Check.due("the length then", 3, p.clearBuffer());
    }

    private static void leavesReason() {
        Check.sentence("(all but .. the latest reason ..)");
        PolarPlanimeter p = Given.corners(2);
        p.runAll();
        Check.due("reason()", 1, p.reason());
        p.undo();
        Check.due("reason() after undo", 1, p.reason());
        p.insert(2, 500, 500);
        p.run(0, false);
        Check.due("reason() after a run", 0, p.reason());
        p.undo();
        p.undo();
        Check.due("reason() after two undos", 0, p.reason());
    }

    private static void undoIsNotUndoable() {
        Check.sentence("and drops it");
        PolarPlanimeter p = new PolarPlanimeter();
        p.setTolerance(1);
        p.setTolerance(2);
        p.undo();
        Given.dueCount(p, 14, 1);
        p.undo();
        Given.dueCount(p, 14, 0);
        Given.dueCount(p, 4, 200);
    }

    // ---- how many are saved

    private static void sixStates() {
        Check.sentence("At most 6 states are saved");
        PolarPlanimeter p = new PolarPlanimeter();
        for (int i = 1; i <= 8; i++) {
            p.setTolerance(i);
            Given.dueCount(p, 14, Math.min(i, 6));
        }
        for (int left = 5; left >= 0; left--) {
            Check.due("undo()", left, p.undo());
            Given.dueCount(p, 14, left);
            Given.dueCount(p, 4, left + 2);
        }
        Check.state("undo() of the seventh", () -> p.undo());
        Given.dueCount(p, 4, 2);
    }

    private static void oldestIsDropped() {
        Check.sentence("the oldest one is dropped first");
        PolarPlanimeter six = new PolarPlanimeter();
        for (int i = 1; i <= 6; i++) {
            six.setTolerance(i);
        }
        for (int i = 0; i < 6; i++) {
            six.undo();
        }
        Given.dueCount(six, 4, 200);
        PolarPlanimeter seven = new PolarPlanimeter();
        for (int i = 1; i <= 7; i++) {
            seven.setTolerance(i);
        }
        for (int i = 0; i < 6; i++) {
            seven.undo();
        }
        Given.dueCount(seven, 4, 1);
    }

    private static void dropsOneAfterAnother() {
        Check.sentence("the oldest one is dropped first, again and again");
        PolarPlanimeter p = new PolarPlanimeter();
        for (int i = 1; i <= 40; i++) {
            p.setAnchor(i, -i);
        }
        for (int i = 39; i >= 34; i--) {
            Check.due("undo()", i - 34, p.undo());
            Given.dueCount(p, 2, i);
            Given.dueCount(p, 3, -i);
        }
        Check.state("undo() then", () -> p.undo());
    }

    private static void savesAgainAfterUndo() {
        Check.sentence("At most 6 states are saved: an undo makes room");
        PolarPlanimeter p = new PolarPlanimeter();
        for (int i = 1; i <= 7; i++) {
            p.setTolerance(i);
        }
        p.undo();
        p.undo();
        p.setTolerance(50);
        p.setTolerance(60);
        Given.dueCount(p, 14, 6);
        int[] due = {50, 5, 4, 3, 2, 1};
        for (int i = 0; i < 6; i++) {
            p.undo();
            Given.dueCount(p, 4, due[i]);
        }
        Check.state("undo() then", () -> p.undo());
    }

    private static void lastCall() {
        Check.sentence("An object is used for at most 512 calls");
        PolarPlanimeter p = new PolarPlanimeter();
        for (int i = 1; i <= 511; i++) {
            p.setTolerance(i);
        }
        Check.due("the 512th call", 5, p.undo());
        PolarPlanimeter q = Given.corners(20);
        for (int i = 0; i < 245; i++) {
            q.runAll();
            q.forget();
        }
        Check.due("the 511th call", 12, q.runAll());
        Check.due("the 512th call", 4, q.reason());
    }
}

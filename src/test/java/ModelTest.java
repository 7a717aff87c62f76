import java.util.Random;

/** Long mixed runs of calls, each answer held against the plain model; the seeds are fixed. */
public final class ModelTest {
    private static final int OBJECTS = 400;
    private static final int CALLS = 420;

    private final PolarPlanimeter real = new PolarPlanimeter();
    private final Model model = new Model();
    private final Random random;
    private final int seed;
    private int made = 0;

    private ModelTest(int seed) {
        this.seed = seed;
        random = new Random(seed);
    }

    private interface Answer {
        long get();
    }

    public static void main(String[] args) {
        for (int seed = 0; seed < OBJECTS; seed++) {
            new ModelTest(seed).play();
        }
        Check.end();
    }

    private void play() {
        while (made < CALLS) {
            step();
            if (random.nextInt(4) == 0) {
                compare("digest()", () -> real.digest(), () -> model.digest());
            }
        }
    }

    /** What an exception is told as, so that it can be compared with an answer. */
    private static long answer(Answer call) {
        try {
            return call.get();
        } catch (RuntimeException e) {
            Class<?> kind = e.getClass();
            return kind == IndexOutOfBoundsException.class ? Long.MIN_VALUE + 1
                    : kind == IllegalArgumentException.class ? Long.MIN_VALUE + 2
                    : kind == IllegalStateException.class ? Long.MIN_VALUE + 3 : Long.MIN_VALUE + 4;
        }
    }

    private void compare(String call, Answer got, Answer want) {
        made++;
        Check.due("object " + seed + ", call " + made + ": " + call, answer(want), answer(got));
    }

    private int between(int least, int greatest) {
        return least + random.nextInt(greatest - least + 1);
    }

    /** Mostly in the range, at times at its edges or just outside. */
    private int around(int least, int greatest) {
        switch (random.nextInt(24)) {
            case 0:
                return least;
            case 1:
                return greatest;
            case 2:
                return random.nextInt(3) == 0 ? least - 1 : least;
            case 3:
                return random.nextInt(3) == 0 ? greatest + 1 : greatest;
            case 4:
                return random.nextInt(8) == 0 ? Integer.MIN_VALUE : least;
            case 5:
                return random.nextInt(8) == 0 ? Integer.MAX_VALUE : greatest;
            default:
                return between(least, greatest);
        }
    }

    private int coordinate() {
        int size = seed % 3 == 0 ? 1000 : seed % 3 == 1 ? 300 : 30;
        return random.nextInt(6) == 0 ? around(-1000, 1000) : between(-size, size);
    }

    private int someCorner() {
        return around(0, Math.max(0, (int) model.count(0) - 1));
    }

    private int value(int setting) {
        switch (setting) {
            case 0:
            case 1:
                return random.nextInt(3) == 0 ? around(200, 3000) : 100 * between(9, 13);
            case 2:
                return around(20, 200);
            case 3:
                return around(0, 1);
            default:
                return random.nextInt(2) == 0 ? between(0, 200) : around(0, 10000);
        }
    }

    private void step() {
        int k = someCorner();
        int x = coordinate();
        int y = coordinate();
        boolean backward = random.nextBoolean();
        int setting = around(0, 4);
        int value = value(setting);
        switch (random.nextInt(26)) {
            case 0:
                int ax = random.nextInt(2) == 0 ? around(-2000, 2000) : between(-300, 300);
                int ay = random.nextInt(2) == 0 ? around(-2000, 2000) : between(-300, 300);
                compare("setAnchor(" + ax + ", " + ay + ")", () -> real.setAnchor(ax, ay), () -> model.setAnchor(ax, ay));
                break;
            case 1:
            case 2:
                compare("set(" + setting + ", " + value + ")", () -> real.set(setting, value), () -> model.set(setting, value));
                break;
            case 3:
                int tolerance = random.nextInt(2) == 0 ? between(0, 300) : around(0, 100000);
                compare("setTolerance(" + tolerance + ")", () -> real.setTolerance(tolerance), () -> model.setTolerance(tolerance));
                break;
            case 4:
            case 5:
            case 6:
                compare("insert(" + k + ", " + x + ", " + y + ")", () -> real.insert(k, x, y), () -> model.insert(k, x, y));
                break;
            case 7:
                compare("move(" + k + ", " + x + ", " + y + ")", () -> real.move(k, x, y), () -> model.move(k, x, y));
                break;
            case 8:
                compare("remove(" + k + ")", () -> real.remove(k), () -> model.remove(k));
                break;
            case 9:
            case 10:
                int slip = around(0, 100);
                compare("setSlip(" + k + ", " + slip + ")", () -> real.setSlip(k, slip), () -> model.setSlip(k, slip));
                break;
            case 11:
            case 12:
            case 13:
                compare("run(" + k + ", " + backward + ")", () -> real.run(k, backward), () -> model.run(k, backward));
                break;
            case 14:
                compare("runAll()", () -> real.runAll(), () -> model.runAll());
                break;
            case 15:
                if (random.nextInt(3) == 0) {
                    compare("forget()", () -> real.forget(), () -> model.forget());
                }
                break;
            case 16:
                text();
                break;
            case 17:
            case 18:
                compare("undo()", () -> real.undo(), () -> model.undo());
                break;
            case 19:
                int tx = around(-40000, 40000);
                int ty = around(-40000, 40000);
                int number = around(0, 2);
                compare("elbow(" + tx + ", " + ty + ", " + number + ")", () -> real.elbow(tx, ty, number), () -> model.elbow(tx, ty, number));
                break;
            case 20:
                compare("ifSet(" + k + ", " + backward + ", " + setting + ", " + value + ")",
                        () -> real.ifSet(k, backward, setting, value), () -> model.ifSet(k, backward, setting, value));
                break;
            case 21:
                compare("why(" + k + ", " + backward + ")", () -> real.why(k, backward), () -> model.why(k, backward));
                break;
            default:
                look(k, setting);
                break;
        }
    }

    private void text() {
        if (random.nextInt(4) == 0) {
            compare("clearBuffer()", () -> real.clearBuffer(), () -> model.clearBuffer());
        }
        StringBuilder text = new StringBuilder();
        int corners = between(1, 7);
        for (int i = 0; i < corners; i++) {
            text.append(i > 0 ? ";" : "").append(coordinate()).append(',').append(coordinate());
        }
        if (random.nextInt(2) == 0) {
            text.setCharAt(random.nextInt(text.length()), "0123456789-,;a!~ ".charAt(random.nextInt(17)));
        }
        for (int i = 0; i < text.length(); i++) {
            char c = text.charAt(i);
            compare("append(" + (int) c + ")", () -> real.append(c), () -> model.append(c));
        }
        compare("firstError()", () -> real.firstError(), () -> model.firstError());
        compare("load()", () -> real.load(), () -> model.load());
        if (random.nextInt(3) > 0) {
            compare("clearBuffer()", () -> real.clearBuffer(), () -> model.clearBuffer());
        }
    }

    private void look(int k, int setting) {
        int what = around(0, 5);
        int run = around(0, Math.max(0, (int) model.count(1) - 1));
        int number = around(0, 14);
        switch (random.nextInt(7)) {
            case 0:
                compare("corner(" + k + ", " + what + ")", () -> real.corner(k, what), () -> model.corner(k, what));
                break;
            case 1:
                compare("made(" + run + ", " + what + ")", () -> real.made(run, what), () -> model.made(run, what));
                break;
            case 2:
                compare("count(" + number + ")", () -> real.count(number), () -> model.count(number));
                break;
            case 3:
                compare("setting(" + setting + ")", () -> real.setting(setting), () -> model.setting(setting));
                break;
            case 4:
                compare("leastArm()", () -> real.leastArm(), () -> model.leastArm());
                break;
            case 5:
                compare("error()", () -> Double.doubleToLongBits(real.error()), () -> Double.doubleToLongBits(model.error()));
                break;
            default:
                compare("reason()", () -> real.reason(), () -> model.reason);
                break;
        }
    }
}

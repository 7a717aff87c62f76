/** Counts and prints the answers that are not the ones that are due. */
final class Check {
    private static int wrong = 0;
    private static String sentence = "";

    private Check() {
    }

    interface Call {
        void make();
    }

    static void due(String call, long want, long got) {
        if (got != want) {
            report(call + " answered " + got + ", due is " + want);
        }
    }

    static void same(String call, String want, String got) {
        if (!want.equals(got)) {
            report(call + " answered " + got + ", due is " + want);
        }
    }

    /** Tells 0.0 from -0.0, too. */
    static void dueBits(String call, double want, double got) {
        if (Double.doubleToLongBits(want) != Double.doubleToLongBits(got)) {
            report(call + " answered " + got + ", due is " + want);
        }
    }

    static void index(String call, Call made) {
        thrown(call, IndexOutOfBoundsException.class, made);
    }

    static void argument(String call, Call made) {
        thrown(call, IllegalArgumentException.class, made);
    }

    static void state(String call, Call made) {
        thrown(call, IllegalStateException.class, made);
    }

    /** The very class is due: one that the machine throws would be a class below it. */
    static void thrown(String call, Class<?> want, Call made) {
        try {
            made.make();
        } catch (RuntimeException e) {
            if (e.getClass() != want) {
                report(call + " threw " + e.getClass().getName() + ", due is " + want.getName());
            }
            return;
        }
        report(call + " threw nothing, due is " + want.getName());
    }

    /** The sentence of the document that the next answers are due by: it is told with what is wrong. */
    static void sentence(String text) {
        sentence = "[" + text + "] ";
    }

    static void report(String text) {
        wrong++;
        System.out.println(sentence + text);
    }

    static void end() {
        System.out.println(wrong == 0 ? "all answers are as due" : wrong + " answers are not as due");
        if (wrong != 0) {
            System.exit(1);
        }
    }
}

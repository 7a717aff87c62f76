/** The edges that the document names in "Input text", and in the promises of append to load. */
public final class TextEdgesTest {
    /** 15 corners, and 60 characters. */
    private static final String LONGEST = "0,0;1,1;2,2;3,3;4,4;5,5;6,6;7,7;8,8;9,9;0,1;0,2;0,3;0,4;0,50";

    private TextEdgesTest() {
    }

    public static void main(String[] args) {
        appendRange();
        appendUpToSixty();
        appendToFull();
        clearEmptyAndFull();
        buffersAreNotSaved();
        noErrorInEmpty();
        noErrorInAnyBeginning();
        errorAtTheEdges();
        firstOfSeveralErrors();
        cutOffAtSixty();
        leadingZeros();
        minusZero();
        minusBeforeNumbers();
        greatestNumbers();
        separators();
        otherCharacters();
        firstErrorChangesNothing();
        loadEmpty();
        loadFewerThanThree();
        loadThree();
        loadIncomplete();
        loadWithError();
        loadLongest();
        loadReplaces();
        loadForgets();
        loadGreatestNumbers();
        loadClearsBuffer();
        Check.end();
    }

    private static PolarPlanimeter with(String text) {
        PolarPlanimeter p = new PolarPlanimeter();
        Given.write(p, text);
        return p;
    }

    private static void dueError(String text, int want) {
        Check.due("firstError() of " + text, want, with(text).firstError());
    }

    private static void dueNoError(String... texts) {
        for (String text : texts) {
            dueError(text, text.length());
        }
    }

    /** In the last character, as x of a first corner and as y of a second one. */
    private static void dueErrorAtEnd(String... texts) {
        for (String text : texts) {
            dueError(text, text.length() - 1);
            dueError("7,7;-1000,".concat(text), 9 + text.length());
        }
    }

    private static void dueNotLoaded(String text) {
        PolarPlanimeter p = with(text);
        Check.argument("load() of " + text, () -> p.load());
        Check.due("the length of " + text, text.length(), p.clearBuffer());
        Given.dueCount(p, 0, 0);
        Given.dueCount(p, 14, 0);
    }

    // ---- the buffer

    private static void appendRange() {
        Check.sentence("code: the character code, 33 to 126");
        PolarPlanimeter p = new PolarPlanimeter();
        for (int code : new int[] {32, 127, -1, 0, 33 + 256, Given.MIN, Given.MAX}) {
            Check.argument("append(" + code + ")", () -> p.append(code));
        }
        Check.due("append(33)", 1, p.append(33));
        Check.due("append(126)", 2, p.append(126));
        Check.due("digest()", Given.hash(Given.values(p, 0, "!~")), p.digest());
    }

    private static void appendUpToSixty() {
        Check.sentence("The buffer has at most 60 characters");
        PolarPlanimeter p = new PolarPlanimeter();
        for (int length = 1; length <= 60; length++) {
            Check.due("append", length, p.append(32 + length));
        }
        Check.state("append the 61st", () -> p.append(33));
        Check.due("clearBuffer()", 60, p.clearBuffer());
        Check.due("append to the empty one", 1, p.append(33));
    }

    private static void appendToFull() {
        Check.sentence("IllegalArgumentException is named before IllegalStateException");
        PolarPlanimeter p = Given.full();
        Check.argument("append(32)", () -> p.append(32));
        Check.argument("append(127)", () -> p.append(127));
        Check.state("append(33)", () -> p.append(33));
        Check.state("append(126)", () -> p.append(126));
        Given.dueSame("after them", p, Given::full, 4, Given.FULL_TEXT);
    }

    private static void clearEmptyAndFull() {
        Check.sentence("Clears the buffer. Returns the length that it had");
        PolarPlanimeter p = new PolarPlanimeter();
        Check.due("clearBuffer() of a new object", 0, p.clearBuffer());
        Given.write(p, LONGEST);
        Check.due("clearBuffer() of the full one", 60, p.clearBuffer());
        Check.due("clearBuffer() of the empty one", 0, p.clearBuffer());
        Check.due("digest()", Given.hash(Given.values(p, 0, "")), p.digest());
    }

    private static void buffersAreNotSaved() {
        Check.sentence("append, clearBuffer and firstError are not undoable");
        PolarPlanimeter p = with("12");
        p.firstError();
        p.clearBuffer();
        Given.dueCount(p, 14, 0);
    }

    // ---- syntax errors

    private static void noErrorInEmpty() {
        Check.sentence("the length of the buffer if there is none: an empty buffer");
        dueError("", 0);
    }

    private static void noErrorInAnyBeginning() {
        Check.sentence("no outline, of any length, begins with the characters: each beginning of one is right");
        String outline = "-1000,0;1,-1;10,999;100,-109";
        for (int length = 0; length <= outline.length(); length++) {
            dueNoError(outline.substring(0, length));
        }
    }

    private static void errorAtTheEdges() {
        Check.sentence("Returns the index of the first character that is a syntax error");
        dueError("x", 0);
        dueError(LONGEST.substring(0, 59) + "x", 59);
        dueError("0,0;0,0;0,0x", 11);
    }

    private static void firstOfSeveralErrors() {
        Check.sentence("the first character that is a syntax error");
        dueError("1,x;x,2", 2);
        dueError("1;;", 1);
        dueError("00,0", 1);
    }

    /** 60 characters have at most 15 corners, so that 20 corners are never reached. */
    private static void cutOffAtSixty() {
        Check.sentence("no outline, of any length: the outline may go on beyond the buffer");
        dueNoError(LONGEST, LONGEST.substring(0, 58) + "1;", LONGEST.substring(0, 58) + "-5",
                "0,0;".repeat(15), "0,0;".repeat(14) + "0,");
        dueError("0,0;".repeat(14) + "0,0,", 59);
    }

    private static void leadingZeros() {
        Check.sentence("0, or 1 to 1000 without a leading zero");
        dueErrorAtEnd("00", "01", "09");
        dueNoError("0", "0,0", "10", "100", "1000", "7,0", "7,10");
    }

    private static void minusZero() {
        Check.sentence("possibly with - in front (-0 is not allowed)");
        dueErrorAtEnd("-0");
        dueNoError("-1", "-9", "-10", "-1000", "7,-1", "7,-1000");
    }

    private static void minusBeforeNumbers() {
        Check.sentence("possibly with - in front: once, and in front");
        dueErrorAtEnd("--", "0-", "1-", "-1-", "1000-");
        dueNoError("-", "7,-", "7,7;-");
    }

    private static void greatestNumbers() {
        Check.sentence("1 to 1000: 1000 and 1001");
        dueErrorAtEnd("1001", "1009", "1010", "1100", "2000", "9999", "10000", "-1001", "-2000", "-10000");
        dueNoError("999", "1000", "-999", "-1000", "1000,1000", "-1000,-1000", "7,1000;");
    }

    private static void separators() {
        Check.sentence("corners separated by ; each one as its x, and a comma, and its y");
        String[] wrong = {",", ";", "-,", "-;", "5;", "5,,", "5,;", "5,-;", "5,-,", "5,5,", "5,5;;", "5,5;,"};
        for (String text : wrong) {
            dueError(text, text.length() - 1);
        }
        dueNoError("5,", "5,5;", "5,5;5", "5,5;5,", "5,5;5,5;", "5,5;5,5;5,5;");
    }

    private static void otherCharacters() {
        Check.sentence("0 to 9, the comma, the semicolon and the minus alone");
        for (int code = 33; code <= 126; code++) {
            PolarPlanimeter p = with("5,5;1");
            p.append(code);
            boolean right = code >= '0' && code <= '9' || code == ',';
            Check.due("firstError() with the character " + code, right ? 6 : 5, p.firstError());
            PolarPlanimeter first = new PolarPlanimeter();
            first.append(code);
            boolean begins = code >= '0' && code <= '9' || code == '-';
            Check.due("firstError() of the character " + code, begins ? 1 : 0, first.firstError());
        }
    }

    private static void firstErrorChangesNothing() {
        Check.sentence("Finds the first syntax error of the buffer: it stays as it is");
        PolarPlanimeter p = Given.full();
        Check.due("firstError()", 59, p.firstError());
        Check.due("firstError() again", 59, p.firstError());
        Given.dueSame("after them", p, Given::full, 4, Given.FULL_TEXT);
    }

    // ---- load

    private static void loadEmpty() {
        Check.sentence("IllegalArgumentException if the buffer is not a complete outline: it is empty");
        dueNotLoaded("");
    }

    private static void loadFewerThanThree() {
        Check.sentence("An outline is written as 3 to 20 corners: 1 and 2");
        dueNotLoaded("1,1");
        dueNotLoaded("1,1;2,2");
        dueNotLoaded("1,1;2,2;");
    }

    private static void loadThree() {
        Check.sentence("An outline is written as 3 to 20 corners: 3");
        PolarPlanimeter p = with("0,0;0,0;0,0");
        Check.due("load()", 3, p.load());
        for (int k = 0; k < 3; k++) {
            Given.dueCorner(p, k, 0, 0, 0);
        }
        Check.index("corner(3, 0)", () -> p.corner(3, 0));
    }

    private static void loadIncomplete() {
        Check.sentence("not a complete outline: no syntax error, but its end is missing");
        for (String end : new String[] {"3", "-", "-3", "3,", "3,-", "3,3;", "3,3;-", "3,3;4", "3,3;4,", "3,3;4,-"}) {
            dueNotLoaded("1,1;2,2;".concat(end));
        }
    }

    private static void loadWithError() {
        Check.sentence("not a complete outline: a syntax error");
        dueNotLoaded("1,1;2,2;3,3x");
        dueNotLoaded("x1,1;2,2;3,3");
        dueNotLoaded("1,1;02,2;3,3");
        dueNotLoaded("1,1;2,2;3,-0");
        dueNotLoaded("1,1;2,1001;3,3");
        dueNotLoaded("1,1;2,2;3,3,");
        dueNotLoaded(LONGEST.substring(0, 59) + ",");
    }

    private static void loadLongest() {
        Check.sentence("load of 60 characters");
        PolarPlanimeter p = with(LONGEST);
        Check.due("load()", 15, p.load());
        Given.dueCorner(p, 0, 0, 0, 0);
        Given.dueCorner(p, 9, 9, 9, 0);
        Given.dueCorner(p, 14, 0, 50, 0);
    }

    private static void loadReplaces() {
        Check.sentence("Replaces the outline by the one in the buffer, with the slip 0 everywhere");
        PolarPlanimeter p = Given.full();
        p.clearBuffer();
        for (int k = 0; k < 20; k++) {
            p.setSlip(k, 100);
        }
        Given.write(p, "1,-2;-3,4;5,6");
        Check.due("load()", 3, p.load());
        Given.dueCorner(p, 0, 1, -2, 0);
        Given.dueCorner(p, 1, -3, 4, 0);
        Given.dueCorner(p, 2, 5, 6, 0);
        Given.dueCount(p, 0, 3);
        p.insert(3, 7, 8);
        Given.dueCorner(p, 3, 7, 8, 0);
    }

    private static void loadForgets() {
        Check.sentence("They are forgotten when .. the outline changes (also if the new value is the old one)");
        PolarPlanimeter p = Given.rectangle();
        p.run(0, false);
        Given.write(p, "300,300;700,300;700,600;300,600");
        Check.due("load() of the same", 4, p.load());
        Given.dueCount(p, 1, 0);
    }

    private static void loadGreatestNumbers() {
        Check.sentence("whole coordinates from -1000 to 1000");
        PolarPlanimeter p = with("-1000,1000;1000,-1000;-999,0;0,-1;1,10");
        Check.due("load()", 5, p.load());
        int[][] due = {{-1000, 1000}, {1000, -1000}, {-999, 0}, {0, -1}, {1, 10}};
        for (int k = 0; k < due.length; k++) {
            Given.dueCorner(p, k, due[k][0], due[k][1], 0);
        }
    }

    private static void loadClearsBuffer() {
        Check.sentence("and clears the buffer");
        PolarPlanimeter p = with("1,1;2,2;3,3");
        p.load();
        Check.argument("load() again", () -> p.load());
        Given.dueCount(p, 14, 1);
        Check.due("clearBuffer()", 0, p.clearBuffer());
        Given.write(p, "4,4;5,5;6,6");
        Check.due("load() of another one", 3, p.load());
        Given.dueCorner(p, 2, 6, 6, 0);
    }
}

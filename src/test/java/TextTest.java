/** Promises 9 (appendText), 10 (clearText), 11 (errorPosition), 12 (runText) and 27 (textLength). */
public final class TextTest {
    private static final Class<IllegalArgumentException> ARGUMENT = IllegalArgumentException.class;
    private static final Class<IllegalStateException> STATE = IllegalStateException.class;
    private static final String FORTY_DAYS = "d;".repeat(39) + "d";

    public static void main(String[] args) {
        appendTextGrowsTheText();
        appendTextRefuses();
        clearTextEmptiesTheText();
        textsAreNoState();
        errorPositions();
        errorPositionsOfEveryShortText();
        aTextGoesWrongAtTheFirstWrongCharacter();
        runTextExecutes();
        runTextEndsBeforeACommandThatThrows();
        runTextIsUndoneAsOneCall();
        runTextRefuses();
        Check.end("TextTest");
    }

    private static void fill(ReelConsole x) {
        for (int at = 0; at < 80; at++) {
            x.appendText('x');
        }
    }

    private static void appendTextGrowsTheText() {
        ReelConsole x = new ReelConsole();
        for (int character = 32; character <= 111; character++) {
            Check.due("appendText(" + character + ")", character - 31, x.appendText(character));
            Check.due("textLength()", character - 31, x.textLength());
        }
        x.clearText();
        for (int character = 112; character <= 126; character++) {
            Check.due("appendText(" + character + ")", character - 111, x.appendText(character));
        }
        Check.due("appendText saves no state", 0, x.savedStates());
        Check.query("textLength", 3, r -> Check.type(r, "abc"), ReelConsole::textLength);
    }

    private static void appendTextRefuses() {
        int[] wrong = {31, 127, 0, -1, 128, 32 + 256, 65536 + 'd', Integer.MIN_VALUE, Integer.MAX_VALUE};
        for (int character : wrong) {
            Check.refused("appendText(" + character + ")", ARGUMENT, x -> Check.type(x, "d"),
                    x -> x.appendText(character));
            Check.refused("appendText(" + character + ") to a full text", ARGUMENT, TextTest::fill,
                    x -> x.appendText(character));
        }
        Check.refused("an 81st character", STATE, TextTest::fill, x -> x.appendText('d'));
    }

    private static void clearTextEmptiesTheText() {
        ReelConsole x = new ReelConsole();
        Check.due("clearText of an empty text", 0, x.clearText());
        fill(x);
        Check.due("clearText of a full text", 80, x.clearText());
        Check.due("the length after it", 0, x.textLength());
        Check.due("the error position after it", 0, x.errorPosition());
        Check.due("clearText again", 0, x.clearText());
        Check.due("clearText saves no state", 0, x.savedStates());
        Check.type(x, "d");
        Check.due("a new text", ReelConsole.NONE, x.errorPosition());
    }

    private static void textsAreNoState() {
        ReelConsole x = new ReelConsole();
        x.nextDay();
        Check.type(x, "t5");
        x.undo();
        Check.due("undo leaves the text", 2, x.textLength());
        x.nextDay();
        x.clearText();
        x.undo();
        Check.due("undo does not bring a text back", 0, x.textLength());
    }

    private static void error(String text, int due) {
        ReelConsole x = new ReelConsole();
        Check.type(x, text);
        Check.due("errorPosition() of \"" + text + "\"", due, x.errorPosition());
        Check.due("its length", text.length(), x.textLength());
    }

    private static void errorPositions() {
        String[] valid = {
            "d", "t1", "t9", "t10", "t99", "r1*1", "w99*20", "c10*19", "r1*10", "r1*2", "r1*9", "r5*3!0", "w5*20!9",
            "c5*1!5", "d;d", "r1*1;t9;d;c7*20!9;w2*2", FORTY_DAYS, "t99;t99", "r99*20!9;d",
        };
        for (String text : valid) {
            error(text, ReelConsole.NONE);
        }
        String[] early = {"", "r", "w", "c", "t", "r1", "r12", "r1*", "r1*1!", "w9*20!", "d;", "t5;", "r1*1;", "d;t"};
        for (String text : early) {
            error(text, text.length());
        }
        Object[][] wrong = {
            {"x", 0}, {" d", 0}, {";", 0}, {"1", 0}, {"D", 0}, {"R1*1", 0}, {"*", 0}, {"!", 0}, {"d ", 1}, {"d;;d", 2},
            {"dd", 1}, {"d1", 1}, {"d!1", 1}, {"t0", 1}, {"t01", 1}, {"t100", 3}, {"t1a", 2}, {"t5!1", 2}, {"t5*1", 2},
            {"r0*1", 1}, {"r01*1", 1}, {"r100*1", 3}, {"r1;", 2}, {"r1!", 2}, {"r*", 1}, {"rr", 1}, {"r1*0", 3},
            {"r1*01", 3}, {"r1*21", 4}, {"r1*29", 4}, {"r1*30", 4}, {"r1*90", 4}, {"r1*200", 5}, {"r1*100", 5},
            {"r1*20;", 6}, {"r1*1!x", 5}, {"r1*1!10", 6}, {"r1*1!1!1", 6}, {"r1*1!;", 5}, {"r1*1*1", 4}, {"r1**", 3},
            {"r1*1!-", 5}, {"d;x", 2}, {"d;d;r1*1;t0", 10}, {"d;t99x;x", 5}, {"xxxxxxxx", 0}, {"r1:1", 2}, {"r/", 1},
            {"r:", 1}, {"d:d", 1}, {"w1 *1", 2}, {"c1*1 ", 4}, {"t", 1}, {"r1*1,d", 4},
        };
        for (Object[] pair : wrong) {
            error((String) pair[0], (Integer) pair[1]);
        }
        error(FORTY_DAYS + ";", 80);
        error("d;".repeat(39) + "r1", 80);
        aClearedTextLeavesNothing("r1*1!5", "r1*1!", 5);
        aClearedTextLeavesNothing("r1*15", "r1*", 3);
        aClearedTextLeavesNothing("d;d", "d;", 2);
        aClearedTextLeavesNothing("t99", "t", 1);
        aClearedTextLeavesNothing("dd", "d", ReelConsole.NONE);
        aClearedTextLeavesNothing("d", "", 0);
        error("d;".repeat(36) + "t9;r1*1!", 80);
        Check.query("errorPosition", 2, x -> Check.type(x, "d;"), ReelConsole::errorPosition);
    }

    private static void aClearedTextLeavesNothing(String before, String text, int due) {
        ReelConsole x = new ReelConsole();
        Check.type(x, before);
        Check.type(x, text);
        Check.due("errorPosition() of \"" + text + "\" after \"" + before + "\"", due, x.errorPosition());
    }

    /** Each text of up to four of the characters that matter, against a plain pattern. */
    private static void errorPositionsOfEveryShortText() {
        String signs = "rtd;*!012359 ";
        ReelConsole x = new ReelConsole();
        int calls = 0;
        int[] limits = {13, 13 * 13, 13 * 13 * 13, 13 * 13 * 13 * 13};
        for (int length = 1; length <= 4; length++) {
            for (int number = 0; number < limits[length - 1]; number++) {
                StringBuilder text = new StringBuilder();
                for (int left = number, at = 0; at < length; at++, left /= 13) {
                    text.append(signs.charAt(left % 13));
                }
                if (calls > 500) {
                    x = new ReelConsole();
                    calls = 0;
                }
                Check.type(x, text.toString());
                calls += length + 2;
                Check.due("errorPosition() of \"" + text + "\"", Grammar.errorPosition(text.toString()),
                        x.errorPosition());
            }
        }
    }

    private static void aTextGoesWrongAtTheFirstWrongCharacter() {
        String valid = "r1*1!0;w23*20!9;c9*3;t5;t99;d;c10*19";
        for (int at = 0; at < valid.length(); at++) {
            for (char other = ' '; other <= '~'; other++) {
                String text = valid.substring(0, at) + other + valid.substring(at + 1);
                error(text, Grammar.errorPosition(text));
            }
        }
    }

    private static void runTextExecutes() {
        ReelConsole x = new ReelConsole();
        Check.type(x, "r1*2!3;w99*20;c30*1!9;d;d;t3");
        Check.due("runText()", 6, x.runText());
        Check.due("jobs", 3, x.jobs());
        int[][] parts = {{0, 1, 2, 3}, {1, 99, 20, 0}, {2, 30, 1, 9}};
        for (int job = 0; job < 3; job++) {
            for (int part = 0; part < 4; part++) {
                Check.due("job(" + job + ", " + part + ")", parts[job][part], x.job(job, part));
            }
        }
        Check.due("the day", 2, x.count(0));
        Check.due("minutes", 3, x.count(1));
        Check.due("the CREATE is done", 2, x.job(2, 4));
        Check.due("the READ runs", 1, x.job(0, 4));
        Check.due("the text stays", 28, x.textLength());
        Check.due("it can run again, up to its CREATE", 2, x.runText());
        Check.due("one state for each run", 2, x.savedStates());
        ReelConsole days = Check.after(r -> Check.type(r, FORTY_DAYS));
        Check.due("runText() of 40 commands", 40, days.runText());
        Check.due("the day", 40, days.count(0));
        ReelConsole minutes = Check.after(r -> Check.type(r, "t99;t1;t10"));
        Check.due("runText() of minutes", 3, minutes.runText());
        Check.due("minutes", 110, minutes.count(1));
        ReelConsole order = Check.after(r -> Check.type(r, "t1;r1*1;t1;d"));
        order.runText();
        Check.due("a job is served only after it is submitted", 0, order.reelOn(0));
        Check.due("it has done nothing yet", 0, order.job(0, 5));
    }

    private static void runTextEndsBeforeACommandThatThrows() {
        ReelConsole x = Check.after(r -> Check.type(r, "d;c1*1;c1*1;d;t9"));
        Check.due("a CREATE that waits already", 2, x.runText());
        Check.due("nothing after it", 1, x.count(0));
        Check.due("one job", 1, x.jobs());
        Check.due("no minute", 0, x.count(1));
        Check.due("a text whose first command throws", "0", Check.answer(Check.after(r -> Check.type(r, "c6*1;d")),
                ReelConsole::runText));
        ReelConsole full = Check.after(r -> {
            Check.type(r, "r1*1;r1*1;r1*1;r1*1;r1*1;r1*1;r1*1;r1*1;r1*1;r1*1;r1*1;r1*1;r1*1;t1;d");
        });
        Check.due("a thirteenth job", 12, full.runText());
        Check.due("no minute", 0, full.count(1));
        Check.due("again", 0, full.runText());
        ReelConsole last = Check.after(r -> Check.type(r, FORTY_DAYS));
        for (int run = 0; run < 24; run++) {
            last.runText();
        }
        Check.due("the day", 960, last.count(0));
        Check.due("a day after the last", 39, last.runText());
        Check.due("the last day", 999, last.count(0));
        Check.due("again", 0, last.runText());
    }

    private static void runTextIsUndoneAsOneCall() {
        Check.undoable("runText", 5, r -> {
            r.submit(ReelConsole.READ, 1, 3, 0);
            Check.type(r, "t2;w2*4!3;d;d;t3");
        }, ReelConsole::runText);
        Check.undoable("runText that executes nothing", 0, r -> Check.type(r, "c1*1"), ReelConsole::runText);
        Check.undoable("runText with six states saved", 1, r -> {
            for (int day = 0; day < 6; day++) {
                r.nextDay();
            }
            Check.type(r, "d");
        }, ReelConsole::runText);
    }

    private static void runTextRefuses() {
        String[] texts = {"", "d;", "x", "d;x", "r1*", "t0", "d;d;d;c30*21", "r1*1!"};
        for (String text : texts) {
            Check.refused("runText() of \"" + text + "\"", STATE, x -> {
                x.nextDay();
                Check.type(x, text);
            }, ReelConsole::runText);
        }
    }
}

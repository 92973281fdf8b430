/** Promises 13 (undo) and 26 (savedStates). */
public final class UndoTest {
    private static final Class<IllegalStateException> STATE = IllegalStateException.class;
    private static final int WRITE = ReelConsole.WRITE, CREATE = ReelConsole.CREATE;

    /** Every kind of call that is undoable, each of which changes something. */
    private static final Check.Steps[] CALLS = {
        x -> x.submit(CREATE, 30, 2, 5),
        x -> x.pass(2),
        x -> x.setSticker(0, 0),
        x -> x.setRing(3, true),
        x -> x.set(0, 2),
        x -> x.nextDay(),
        x -> x.set(1, 3),
        x -> x.submit(WRITE, 2, 9, 1),
        x -> x.pass(4),
        x -> x.cancel(1),
        x -> x.runText(),
    };

    public static void main(String[] args) {
        undoWithoutASavedState();
        undoGoesBackThroughSixStates();
        undoAfterUndo();
        callsThatSaveNothing();
        undoBringsBackTheSettings();
        Check.end("UndoTest");
    }

    private static void undoWithoutASavedState() {
        Check.refused("undo of a new object", STATE, x -> { }, ReelConsole::undo);
        Check.refused("undo after the last undo", STATE, x -> {
            x.nextDay();
            x.undo();
        }, ReelConsole::undo);
        Check.refused("a seventh undo", STATE, x -> {
            for (int day = 0; day < 9; day++) {
                x.nextDay();
            }
            for (int undone = 0; undone < 6; undone++) {
                x.undo();
            }
        }, ReelConsole::undo);
    }

    /** The room after the first calls of CALLS. */
    private static String roomAfter(int calls) {
        return Check.room(Check.after(x -> make(x, calls)));
    }

    private static void make(ReelConsole x, int calls) {
        Check.type(x, "t1;d");
        for (int call = 0; call < calls; call++) {
            CALLS[call].on(x);
        }
    }

    private static void undoGoesBackThroughSixStates() {
        for (int calls = 1; calls <= CALLS.length; calls++) {
            for (int undone = 1; undone <= Math.min(6, calls); undone++) {
                String what = undone + " undo after " + calls + " calls";
                int made = calls;
                ReelConsole x = Check.after(r -> make(r, made));
                Check.due(what + ", savedStates()", Math.min(6, calls), x.savedStates());
                for (int left = 1; left <= undone; left++) {
                    Check.due(what, Math.min(6, calls) - left, x.undo());
                    Check.due(what + ", savedStates()", Math.min(6, calls) - left, x.savedStates());
                }
                Check.due(what + ", the room", roomAfter(calls - undone), Check.room(x));
                Check.due(what + ", the text", 4, x.textLength());
            }
        }
    }

    private static void undoAfterUndo() {
        ReelConsole x = new ReelConsole();
        for (int day = 1; day <= 7; day++) {
            x.nextDay();
        }
        x.undo();
        x.undo();
        Check.due("the day after two undos", 5, x.count(0));
        x.pass(1);
        x.pass(1);
        x.pass(1);
        Check.due("saved states", 6, x.savedStates());
        for (int left = 5; left >= 0; left--) {
            Check.due("undo", left, x.undo());
        }
        Check.due("minutes after all undos", 0, x.count(1));
        Check.due("the day after all undos", 2, x.count(0));
    }

    private static void callsThatSaveNothing() {
        ReelConsole x = new ReelConsole();
        x.submit(ReelConsole.READ, 1, 3, 0);
        x.appendText('d');
        x.errorPosition();
        x.textLength();
        x.clearText();
        x.reel(0, 0);
        x.reelOn(0);
        x.scratchReels();
        x.jobs();
        x.job(0, 0);
        x.isStuck(0);
        x.verdict(0, 0);
        x.nextJob();
        x.nextReel();
        x.minutesToDone(0);
        x.count(0);
        x.success();
        x.savedStates();
        Check.due("savedStates()", 1, x.savedStates());
        Check.query("savedStates", 2, r -> {
            r.nextDay();
            r.nextDay();
        }, ReelConsole::savedStates);
        Check.query("savedStates with six", 6, r -> {
            for (int day = 0; day < 8; day++) {
                r.nextDay();
            }
        }, ReelConsole::savedStates);
    }

    private static void undoBringsBackTheSettings() {
        ReelConsole x = new ReelConsole();
        x.set(0, 1);
        x.set(1, 20);
        x.undo();
        x.submit(CREATE, 40, 1, 0);
        Check.due("CARE is still 1", 7, x.nextReel());
        x.undo();
        x.undo();
        x.submit(CREATE, 40, 1, 0);
        Check.due("CARE is 0 again", 6, x.nextReel());
        x.pass(1);
        Check.due("KEEP is 10 again", 10, x.reel(6, 3));
    }
}

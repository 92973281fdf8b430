/** Promises 6 (pass), 7 (nextDay) and 8 (set), with what a minute does (sections 3 and 4 of the document). */
public final class TimeTest {
    private static final int READ = ReelConsole.READ, WRITE = ReelConsole.WRITE, CREATE = ReelConsole.CREATE;
    private static final Class<IllegalArgumentException> ARGUMENT = IllegalArgumentException.class;
    private static final Class<IllegalStateException> STATE = IllegalStateException.class;
    private static final Class<IndexOutOfBoundsException> INDEX = IndexOutOfBoundsException.class;

    public static void main(String[] args) {
        passCountsJobsThatBecomeDone();
        passRefuses();
        aMinuteWorksFirstAndServesThen();
        aDriveIsTakenFromTheLowest();
        theHighestPriorityIsServed();
        createMakesALabel();
        blocksAboveAreDropped();
        ringsArePutInAndTakenOut();
        eachVerdictSendsBack();
        slipsTakeTheNextReelOnTheShelf();
        slipsGoRoundTheShelf();
        nextDayBegins();
        setChangesASetting();
        setRefuses();
        Check.end("TimeTest");
    }

    private static void passCountsJobsThatBecomeDone() {
        Check.undoable("pass in an empty room", 0, x -> { }, x -> x.pass(99));
        Check.undoable("pass(1) of a job of one minute", 0, x -> x.submit(READ, 1, 1, 0), x -> x.pass(1));
        Check.undoable("pass(2) of a job of one minute", 1, x -> x.submit(READ, 1, 1, 0), x -> x.pass(2));
        Check.undoable("pass(20) of a job of 20 minutes", 0, x -> x.submit(READ, 1, 20, 0), x -> x.pass(20));
        Check.undoable("pass(21) of a job of 20 minutes", 1, x -> x.submit(READ, 1, 20, 0), x -> x.pass(21));
        Check.undoable("pass(99) of three jobs and a stuck one", 3, x -> {
            x.submit(READ, 1, 3, 0);
            x.submit(WRITE, 99, 3, 9);
            x.submit(CREATE, 30, 3, 0);
            x.submit(WRITE, 1, 3, 0);
        }, x -> x.pass(99));
        ReelConsole x = Check.after(r -> r.submit(READ, 1, 2, 0));
        x.pass(1);
        x.pass(99);
        Check.due("minutes", 100, x.count(1));
        Check.due("the job is done once", 1, x.count(10));
        Check.due("pass saves one state each", 3, x.savedStates());
    }

    private static void passRefuses() {
        int[] wrong = {0, -1, 100, Integer.MIN_VALUE, Integer.MAX_VALUE};
        for (int minutes : wrong) {
            Check.refused("pass(" + minutes + ")", ARGUMENT, x -> x.submit(READ, 1, 2, 0), x -> x.pass(minutes));
        }
    }

    private static void aMinuteWorksFirstAndServesThen() {
        ReelConsole x = Check.after(r -> {
            r.submit(READ, 1, 1, 0);
            r.submit(READ, 2, 2, 0);
            r.submit(READ, 3, 3, 0);
            r.submit(READ, 4, 1, 0);
        });
        x.pass(1);
        Check.due("a job that was just served has done nothing", 0, x.job(0, 5));
        Check.due("one job is served a minute", 1, x.count(9));
        x.pass(1);
        Check.due("done in the minute after", 2, x.job(0, 4));
        Check.due("its reel is back", ReelConsole.NONE, x.reel(0, 5));
        Check.due("the drive that became empty is used in the same minute", 1, x.reelOn(0));
        x.pass(2);
        Check.due("drive 0", 3, x.reelOn(0));
        Check.due("drive 1", 2, x.reelOn(1));
        Check.due("job 1 is done", 2, x.job(1, 4));
        Check.due("blocks of job 2", 1, x.job(2, 5));
    }

    private static void aDriveIsTakenFromTheLowest() {
        ReelConsole x = Check.after(r -> {
            r.submit(READ, 1, 20, 0);
            r.submit(READ, 2, 2, 0);
            r.submit(READ, 3, 20, 0);
            r.submit(READ, 4, 20, 0);
            r.pass(3);
        });
        Check.due("drive 0", 0, x.reelOn(0));
        Check.due("drive 1", 1, x.reelOn(1));
        Check.due("drive 2", 2, x.reelOn(2));
        Check.due("a waiting job with all drives full", 3, x.nextJob());
        x.pass(1);
        Check.due("the drive that became empty", 3, x.reelOn(1));
        Check.due("mounts", 4, x.count(2));
        x.submit(READ, 5, 1, 0);
        x.pass(5);
        Check.due("no mount without an empty drive", 4, x.count(2));
        x.cancel(0);
        x.cancel(2);
        x.pass(1);
        Check.due("the lowest of two empty drives", 4, x.reelOn(0));
        Check.due("the other one", ReelConsole.NONE, x.reelOn(2));
    }

    private static void theHighestPriorityIsServed() {
        ReelConsole x = Check.after(r -> {
            r.submit(READ, 1, 20, 3);
            r.submit(READ, 2, 20, 7);
            r.submit(READ, 3, 20, 7);
            r.submit(READ, 77, 20, 9);
        });
        Check.due("the first of the highest that is not stuck", 1, x.nextJob());
        x.pass(1);
        Check.due("then the second", 2, x.nextJob());
        x.pass(1);
        Check.due("then the lower priority", 0, x.nextJob());
        x.pass(1);
        Check.due("the stuck one never", ReelConsole.NONE, x.nextJob());
        Check.due("the stuck one waits", 0, x.job(3, 4));
    }

    private static void createMakesALabel() {
        ReelConsole x = Check.after(r -> {
            r.set(1, 99);
            r.nextDay();
            r.setSticker(2, 0);
            r.submit(WRITE, 3, 2, 0);
            r.setSticker(2, 3);
            r.pass(3);
            r.setSticker(2, 0);
            r.submit(CREATE, 80, 2, 0);
        });
        Check.due("blocks before", 2, x.reel(2, 4));
        x.pass(1);
        Check.due("the lowest reel with a blank sticker", 2, x.reelOn(0));
        int[] parts = {80, 80, 1, 100, 0, 0, 0};
        for (int part = 0; part < parts.length; part++) {
            Check.due("part " + part + " of the reel", parts[part], x.reel(2, part));
        }
        x.pass(1);
        Check.due("a CREATE writes", 1, x.reel(2, 4));
        x.pass(1);
        Check.due("done", 2, x.job(1, 4));
        Check.due("written", 4, x.count(6));
        Check.due("KEEP is 0", 0, Check.after(r -> {
            r.set(1, 0);
            r.submit(CREATE, 80, 2, 0);
            r.pass(1);
        }).reel(6, 3));
        ReelConsole late = Check.after(r -> {
            Check.toDay(r, 999);
            r.set(1, 99);
            r.setSticker(4, 0);
            r.submit(CREATE, 5, 2, 0);
            r.pass(1);
        });
        Check.due("the highest expiry day", 1098, late.reel(4, 3));
    }

    private static void blocksAboveAreDropped() {
        ReelConsole x = Check.after(r -> {
            for (int job = 0; job < 6; job++) {
                r.submit(WRITE, 1, 20, 0);
            }
            r.pass(99);
        });
        Check.due("blocks after 99 minutes", 98, x.reel(0, 4));
        x.pass(1);
        Check.due("blocks after 100 minutes", 99, x.reel(0, 4));
        Check.due("dropped", 0, x.count(7));
        x.pass(1);
        Check.due("blocks after 101 minutes", 99, x.reel(0, 4));
        Check.due("dropped", 1, x.count(7));
        Check.due("a job whose block was dropped is done", 2, x.job(4, 4));
        Check.due("and has done it", 20, x.job(4, 5));
        x.pass(99);
        Check.due("dropped", 21, x.count(7));
        Check.due("written", 99, x.count(6));
        Check.due("read", 0, x.count(5));
        Check.due("jobs that are done", 6, x.count(10));
    }

    private static void ringsArePutInAndTakenOut() {
        ReelConsole x = Check.after(r -> {
            r.setRing(0, true);
            r.submit(READ, 1, 1, 0);
            r.submit(WRITE, 2, 1, 0);
            r.submit(CREATE, 30, 1, 0);
            r.pass(3);
        });
        Check.due("a READ takes the ring out", 0, x.reel(0, 2));
        Check.due("a WRITE puts one in", 1, x.reel(1, 2));
        Check.due("a CREATE puts one in", 1, x.reel(6, 2));
        x.pass(9);
        Check.due("it stays after the job", 1, x.reel(1, 2));
        Check.due("all were mounted at once", 3, x.count(2));
        Check.due("none was sent back", 0, x.count(4));
        ReelConsole wrong = Check.after(r -> {
            r.setSticker(8, 9);
            r.submit(WRITE, 9, 1, 0);
            r.pass(1);
        });
        Check.due("the ring of a reel that is sent back stays as the operator put it", 1, wrong.reel(8, 2));
    }

    private static void eachVerdictSendsBack() {
        ReelConsole x = Check.after(r -> {
            r.setSticker(3, 9);
            r.submit(READ, 9, 1, 0);
            r.pass(1);
        });
        Check.due("a wrong label is sent back", 1, x.count(4));
        Check.due("its sticker becomes its label", 4, x.reel(3, 1));
        Check.due("it stays on the shelf", ReelConsole.NONE, x.reel(3, 5));
        Check.due("the job waits on", 0, x.job(0, 4));
        Check.due("sent back for the job", 1, x.job(0, 7));
        Check.due("and is stuck", true, x.isStuck(0));
        ReelConsole scratch = Check.after(r -> {
            r.nextDay();
            r.setSticker(3, 9);
            r.submit(READ, 9, 1, 0);
            r.pass(1);
        });
        Check.due("the sticker of a scratch reel becomes blank", 0, scratch.reel(3, 1));
        ReelConsole create = Check.after(r -> {
            r.setSticker(1, 0);
            r.submit(CREATE, 30, 1, 0);
            r.pass(1);
        });
        Check.due("a reel that is not scratch is sent back", 1, create.job(0, 7));
        Check.due("its sticker becomes its label", 2, create.reel(1, 1));
        create.pass(1);
        Check.due("the next one fits", 6, create.reelOn(0));
        ReelConsole expired = Check.after(r -> {
            r.submit(READ, 1, 1, 0);
            r.nextDay();
            r.pass(1);
        });
        Check.due("a READ takes an expired reel with its label", 0, expired.reelOn(0));
    }

    private static void slipsTakeTheNextReelOnTheShelf() {
        ReelConsole ring = Check.after(r -> {
            r.set(0, 1);
            r.setSticker(0, 2);
            r.setRing(1, true);
            r.submit(READ, 2, 1, 0);
            r.pass(1);
        });
        Check.due("a slip leaves the ring", 1, ring.reel(1, 2));
        Check.due("a READ of a reel with a ring is sent back", 1, ring.count(4));
        Check.due("the slip is counted", 1, ring.count(3));
        Check.due("its sticker becomes its label", 2, ring.reel(1, 1));
        ring.setRing(1, false);
        ring.pass(1);
        Check.due("a slip may take a reel that fits", 1, ring.reelOn(0));
        Check.due("it is a slip all the same", 2, ring.count(3));
        Check.due("and not sent back", 1, ring.count(4));

        ReelConsole write = Check.after(r -> {
            r.set(0, 1);
            r.setSticker(0, 2);
            r.submit(WRITE, 2, 1, 0);
            r.pass(1);
        });
        Check.due("a WRITE of a reel without a ring is sent back", 1, write.job(0, 7));
        Check.due("a slip leaves the ring out", 0, write.reel(1, 2));
        ReelConsole create = Check.after(r -> {
            r.set(0, 1);
            r.submit(CREATE, 30, 1, 0);
            r.pass(1);
        });
        Check.due("a CREATE of a reel without a ring is sent back", 1, create.job(0, 7));
        Check.due("the label stays blank", 0, create.reel(7, 0));

        ReelConsole third = Check.after(r -> {
            r.set(0, 3);
            r.submit(READ, 1, 9, 2);
            r.submit(READ, 2, 9, 1);
            r.submit(READ, 3, 9, 0);
            r.pass(2);
        });
        Check.due("no slip before the third mount", 0, third.count(3));
        third.pass(1);
        Check.due("the third mount is a slip", 1, third.count(3));
        Check.due("reel 3 is sent back", 1, third.count(4));
        third.pass(1);
        Check.due("the fourth mount is none", 2, third.reelOn(2));
        Check.due("CARE 0 makes no slip", 0, Check.after(r -> {
            r.submit(READ, 1, 9, 2);
            r.pass(1);
        }).count(3));
    }

    private static void slipsGoRoundTheShelf() {
        ReelConsole x = Check.after(r -> {
            r.submit(READ, 1, 20, 0);
            r.submit(READ, 3, 20, 0);
            r.pass(2);
            r.set(0, 1);
            r.setSticker(11, 50);
            r.submit(READ, 50, 1, 0);
        });
        Check.due("behind the last reel the first one on the shelf is next", 1, x.nextReel());
        x.pass(1);
        Check.due("it is sent back", 1, x.count(4));
        Check.due("reel 11 keeps its sticker", 50, x.reel(11, 1));
        x.cancel(2);
        x.submit(READ, 2, 1, 0);
        Check.due("reels on drives are passed over", 3, x.nextReel());
    }

    private static void nextDayBegins() {
        ReelConsole x = new ReelConsole();
        Check.due("nextDay()", 1, x.nextDay());
        Check.due("nextDay() again", 2, x.nextDay());
        Check.due("no minute passes", 0, x.count(1));
        Check.undoable("nextDay", 1, r -> { }, ReelConsole::nextDay);
        Check.undoable("the last nextDay", 999, r -> Check.toDay(r, 998), ReelConsole::nextDay);
        Check.refused("nextDay on day 999", STATE, r -> Check.toDay(r, 999), ReelConsole::nextDay);
    }

    private static void setChangesASetting() {
        ReelConsole x = new ReelConsole();
        Check.due("set(0, 9)", 0, x.set(0, 9));
        Check.due("set(0, 0)", 9, x.set(0, 0));
        Check.due("set(1, 99)", 10, x.set(1, 99));
        Check.due("set(1, 0)", 99, x.set(1, 0));
        Check.due("set(1, 5)", 0, x.set(1, 5));
        Check.due("set(0, 1)", 0, x.set(0, 1));
        Check.due("set(0, 1) again", 1, x.set(0, 1));
        Check.undoable("set to the same", 10, r -> { }, r -> r.set(1, 10));
        ReelConsole undone = Check.after(r -> {
            r.set(0, 4);
            r.set(1, 44);
            r.undo();
        });
        Check.due("KEEP after undo", 10, undone.set(1, 10));
        undone.undo();
        undone.undo();
        Check.due("CARE after undo", 0, undone.set(0, 0));
    }

    private static void setRefuses() {
        int[] noSettings = {-1, 2, Integer.MIN_VALUE, Integer.MAX_VALUE};
        for (int setting : noSettings) {
            Check.refused("set(" + setting + ", 0)", INDEX, x -> { }, x -> x.set(setting, 0));
            Check.refused("set(" + setting + ", 100)", INDEX, x -> { }, x -> x.set(setting, 100));
        }
        int[] noCare = {-1, 10, 99, Integer.MIN_VALUE, Integer.MAX_VALUE};
        for (int care : noCare) {
            Check.refused("set(0, " + care + ")", ARGUMENT, x -> x.set(0, 2), x -> x.set(0, care));
        }
        int[] noKeep = {-1, 100, Integer.MIN_VALUE, Integer.MAX_VALUE};
        for (int keep : noKeep) {
            Check.refused("set(1, " + keep + ")", ARGUMENT, x -> x.set(1, 2), x -> x.set(1, keep));
        }
    }
}

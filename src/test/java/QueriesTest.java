/** Promises 14 to 23: the queries about reels, about jobs, and about what would happen. */
public final class QueriesTest {
    private static final int READ = ReelConsole.READ, WRITE = ReelConsole.WRITE, CREATE = ReelConsole.CREATE;
    private static final int NONE = ReelConsole.NONE;
    private static final Class<IllegalArgumentException> ARGUMENT = IllegalArgumentException.class;
    private static final Class<IndexOutOfBoundsException> INDEX = IndexOutOfBoundsException.class;
    private static final int[] NO_PARTS = {-1, 8, 100, Integer.MIN_VALUE, Integer.MAX_VALUE};
    private static final int[] NO_REELS = {-1, 12, Integer.MIN_VALUE, Integer.MAX_VALUE};
    /** No job in the busy room, which has six. */
    private static final int[] NO_JOBS = {-1, 6, 12, Integer.MIN_VALUE, Integer.MAX_VALUE};

    public static void main(String[] args) {
        reelTellsItsParts();
        reelOnTellsTheReel();
        scratchReelsAreCounted();
        jobsAreCounted();
        jobTellsItsParts();
        isStuckTells();
        verdictTells();
        verdictNamesTheFirst();
        nextJobTells();
        nextReelTells();
        minutesToDoneTells();
        minutesToDoneKnowsSendBacks();
        minutesToDoneEndsAt300();
        Check.end("QueriesTest");
    }

    /** One job in each state, with a reel sent back, a stuck job, and a new label. */
    private static void busy(ReelConsole x) {
        x.set(1, 3);
        x.setSticker(4, 60);
        x.submit(READ, 60, 4, 9);
        x.submit(CREATE, 42, 5, 8);
        x.submit(WRITE, 2, 1, 7);
        x.submit(READ, 3, 9, 6);
        x.submit(READ, 4, 2, 0);
        x.submit(WRITE, 5, 20, 0);
        x.pass(4);
        x.cancel(4);
    }

    private static void reelTellsItsParts() {
        int[][] due = {
            {42, 42, 1, 3, 2, 0, 0}, {2, 2, 1, 0, 1, NONE, 0}, {3, 3, 0, 0, 0, 1, 0}, {5, 5, 0, 0, 0, NONE, 0},
            {0, 0, 0, 0, 0, NONE, 1},
        };
        int[] reels = {6, 1, 2, 4, 7};
        for (int row = 0; row < reels.length; row++) {
            for (int part = 0; part <= 6; part++) {
                int reel = reels[row], asked = part;
                Check.query("reel(" + reel + ", " + part + ")", due[row][part], QueriesTest::busy,
                        x -> x.reel(reel, asked));
            }
        }
        for (int reel : NO_REELS) {
            Check.refused("reel(" + reel + ", 0)", INDEX, QueriesTest::busy, x -> x.reel(reel, 0));
            Check.refused("reel(" + reel + ", -1)", INDEX, QueriesTest::busy, x -> x.reel(reel, -1));
        }
        for (int part : NO_PARTS) {
            Check.refused("reel(0, " + part + ")", ARGUMENT, QueriesTest::busy, x -> x.reel(0, part));
        }
        Check.refused("reel(11, 7)", ARGUMENT, x -> { }, x -> x.reel(11, 7));
        Check.query("a label that has expired is scratch", 1, ReelConsole::nextDay, x -> x.reel(0, 6));
        Check.query("an expired label stays", 1, ReelConsole::nextDay, x -> x.reel(0, 0));
        Check.query("a label on its last day is not scratch", 0, x -> {
            busy(x);
            x.nextDay();
            x.nextDay();
            x.nextDay();
        }, x -> x.reel(6, 6));
        Check.query("a label after its last day is scratch", 1, x -> {
            busy(x);
            for (int day = 0; day < 4; day++) {
                x.nextDay();
            }
        }, x -> x.reel(6, 6));
        Check.query("a sticker alone makes no reel scratch", 0, x -> x.setSticker(0, 0), x -> x.reel(0, 6));
    }

    private static void reelOnTellsTheReel() {
        int[] due = {6, 2, NONE};
        for (int drive = 0; drive < 3; drive++) {
            int asked = drive;
            Check.query("reelOn(" + drive + ")", due[drive], QueriesTest::busy, x -> x.reelOn(asked));
        }
        int[] wrong = {-1, 3, 12, Integer.MIN_VALUE, Integer.MAX_VALUE};
        for (int drive : wrong) {
            Check.refused("reelOn(" + drive + ")", INDEX, QueriesTest::busy, x -> x.reelOn(drive));
        }
    }

    private static void scratchReelsAreCounted() {
        Check.query("scratchReels at first", 6, x -> { }, ReelConsole::scratchReels);
        Check.query("scratchReels on day 1", 12, ReelConsole::nextDay, ReelConsole::scratchReels);
        Check.query("scratchReels with a new label", 5, QueriesTest::busy, ReelConsole::scratchReels);
        Check.query("scratchReels with a new label on day 1", 11, x -> {
            busy(x);
            x.nextDay();
        }, ReelConsole::scratchReels);
    }

    private static void jobsAreCounted() {
        Check.query("jobs at first", 0, x -> { }, ReelConsole::jobs);
        Check.query("jobs with cancelled and done ones", 6, QueriesTest::busy, ReelConsole::jobs);
        Check.query("jobs after an undone submission", 0, x -> {
            x.submit(READ, 1, 1, 0);
            x.undo();
        }, ReelConsole::jobs);
    }

    private static void jobTellsItsParts() {
        int[][] due = {
            {READ, 60, 4, 9, 0, 0, NONE, 1}, {CREATE, 42, 5, 8, 1, 2, 6, 0}, {WRITE, 2, 1, 7, 2, 1, NONE, 0},
            {READ, 3, 9, 6, 1, 0, 2, 0}, {READ, 4, 2, 0, 3, 0, NONE, 0}, {WRITE, 5, 20, 0, 0, 0, NONE, 0},
        };
        for (int job = 0; job < due.length; job++) {
            for (int part = 0; part <= 7; part++) {
                int number = job, asked = part;
                Check.query("job(" + job + ", " + part + ")", due[job][part], QueriesTest::busy,
                        x -> x.job(number, asked));
            }
        }
        for (int job : NO_JOBS) {
            Check.refused("job(" + job + ", 0)", INDEX, QueriesTest::busy, x -> x.job(job, 0));
            Check.refused("job(" + job + ", 8)", INDEX, QueriesTest::busy, x -> x.job(job, 8));
        }
        Check.refused("job(0, 0) without jobs", INDEX, x -> { }, x -> x.job(0, 0));
        for (int part : NO_PARTS) {
            Check.refused("job(0, " + part + ")", ARGUMENT, QueriesTest::busy, x -> x.job(0, part));
        }
    }

    private static void isStuckTells() {
        boolean[] due = {true, false, false, false, false, false};
        for (int job = 0; job < due.length; job++) {
            int number = job;
            Check.query("isStuck(" + job + ")", due[job], QueriesTest::busy, x -> x.isStuck(number));
        }
        for (int job : NO_JOBS) {
            Check.refused("isStuck(" + job + ")", INDEX, QueriesTest::busy, x -> x.isStuck(job));
        }
        Check.query("a job whose reel is on a drive is stuck", true, x -> {
            x.submit(READ, 1, 9, 0);
            x.pass(1);
            x.submit(READ, 1, 9, 0);
        }, x -> x.isStuck(1));
        Check.query("a running job is not stuck", false, x -> {
            x.submit(READ, 1, 9, 0);
            x.pass(1);
        }, x -> x.isStuck(0));
        Check.query("a CREATE without a blank sticker is stuck", true, x -> {
            blankStickersGone(x);
            x.submit(CREATE, 30, 1, 0);
        }, x -> x.isStuck(0));
        Check.query("a CREATE goes by the sticker, not by the label", false, x -> {
            blankStickersGone(x);
            x.setSticker(0, 0);
            x.submit(CREATE, 30, 1, 0);
        }, x -> x.isStuck(0));
        Check.query("a cancelled job is not stuck", false, x -> {
            x.submit(READ, 99, 9, 0);
            x.cancel(0);
        }, x -> x.isStuck(0));
    }

    private static void blankStickersGone(ReelConsole x) {
        for (int reel = 6; reel < 12; reel++) {
            x.setSticker(reel, 90);
        }
    }

    private static void verdictTells() {
        Check.Steps steps = x -> {
            x.submit(READ, 1, 1, 0);
            x.submit(WRITE, 2, 1, 0);
            x.submit(CREATE, 30, 1, 0);
            x.setRing(1, true);
            x.setRing(3, true);
            x.setRing(7, true);
        };
        int[][] due = {
            {0, 1, 1, 1, 1, 1, 1, 1, 1, 1, 1, 1},
            {1, 0, 1, 1, 1, 1, 1, 1, 1, 1, 1, 1},
            {2, 2, 2, 2, 2, 2, 4, 0, 4, 4, 4, 4},
        };
        for (int job = 0; job < 3; job++) {
            for (int reel = 0; reel < 12; reel++) {
                int number = job, asked = reel;
                Check.query("verdict(" + job + ", " + reel + ")", due[job][reel], steps, x -> x.verdict(number, asked));
            }
        }
        int[][] wrong = {{-1, 0}, {3, 0}, {12, 0}, {0, -1}, {0, 12}, {-1, -1}, {3, 12}, {Integer.MAX_VALUE, 0},
            {0, Integer.MAX_VALUE}, {Integer.MIN_VALUE, Integer.MIN_VALUE}};
        for (int[] pair : wrong) {
            Check.refused("verdict(" + pair[0] + ", " + pair[1] + ")", INDEX, steps, x -> x.verdict(pair[0], pair[1]));
        }
    }

    private static void verdictNamesTheFirst() {
        Check.query("READ with a ring", 3, x -> {
            x.setRing(0, true);
            x.submit(READ, 1, 1, 0);
        }, x -> x.verdict(0, 0));
        Check.query("WRITE without a ring", 4, x -> x.submit(WRITE, 1, 1, 0), x -> x.verdict(0, 0));
        Check.query("READ of a wrong label with a ring", 1, x -> {
            x.setRing(1, true);
            x.submit(READ, 1, 1, 0);
        }, x -> x.verdict(0, 1));
        Check.query("WRITE of a wrong label without a ring", 1, x -> x.submit(WRITE, 1, 1, 0), x -> x.verdict(0, 1));
        Check.query("CREATE of a kept reel with a ring", 2, x -> {
            x.setRing(1, true);
            x.submit(CREATE, 30, 1, 0);
        }, x -> x.verdict(0, 1));
        Check.query("CREATE of an expired reel", 4, x -> {
            x.nextDay();
            x.submit(CREATE, 30, 1, 0);
        }, x -> x.verdict(0, 1));
        Check.query("the label counts, not the sticker", 1, x -> {
            x.setSticker(8, 30);
            x.submit(READ, 30, 1, 0);
        }, x -> x.verdict(0, 8));
        Check.query("a running CREATE and its own reel", 2, QueriesTest::busy, x -> x.verdict(1, 6));
        Check.query("a job that is done", 0, QueriesTest::busy, x -> x.verdict(2, 1));
        Check.query("a cancelled job", 0, QueriesTest::busy, x -> x.verdict(4, 3));
        Check.query("a READ and a reel on a drive", 0, QueriesTest::busy, x -> x.verdict(3, 2));
    }

    private static void nextJobTells() {
        Check.query("nextJob without jobs", NONE, x -> { }, ReelConsole::nextJob);
        Check.query("nextJob of priority 0", 0, x -> x.submit(READ, 1, 1, 0), ReelConsole::nextJob);
        Check.query("nextJob in the busy room", 5, QueriesTest::busy, ReelConsole::nextJob);
        Check.query("nextJob with only a stuck one", NONE, x -> x.submit(READ, 60, 1, 9), ReelConsole::nextJob);
        Check.query("nextJob of equals", 1, x -> {
            x.submit(READ, 1, 1, 4);
            x.submit(READ, 2, 1, 5);
            x.submit(READ, 3, 1, 5);
        }, ReelConsole::nextJob);
        Check.query("nextJob with all drives full", 3, x -> {
            for (int volume = 1; volume <= 4; volume++) {
                x.submit(READ, volume, 9, 0);
            }
            x.pass(4);
        }, ReelConsole::nextJob);
    }

    private static void nextReelTells() {
        Check.query("nextReel without jobs", NONE, x -> { }, ReelConsole::nextReel);
        Check.query("nextReel of a stuck job", NONE, x -> {
            x.set(0, 1);
            x.submit(READ, 60, 1, 9);
        }, ReelConsole::nextReel);
        Check.query("nextReel of a READ", 3, x -> x.submit(READ, 4, 1, 0), ReelConsole::nextReel);
        Check.query("nextReel of a CREATE", 6, x -> x.submit(CREATE, 40, 1, 0), ReelConsole::nextReel);
        Check.query("nextReel in a slip", 4, x -> {
            x.set(0, 1);
            x.submit(READ, 4, 1, 0);
        }, ReelConsole::nextReel);
        Check.query("nextReel in a slip from the last reel", 0, x -> {
            x.set(0, 1);
            x.setSticker(11, 60);
            x.submit(READ, 60, 1, 0);
        }, ReelConsole::nextReel);
        Check.query("nextReel of the lowest with the sticker", 2, x -> {
            x.setSticker(2, 60);
            x.setSticker(9, 60);
            x.submit(READ, 60, 1, 0);
        }, ReelConsole::nextReel);
        Check.query("nextReel with all drives full, in a slip", 4, x -> {
            x.set(0, 4);
            for (int volume = 1; volume <= 4; volume++) {
                x.submit(READ, volume, 9, 0);
            }
            x.pass(4);
        }, ReelConsole::nextReel);
        Check.query("nextReel is no slip before its turn", 0, x -> {
            x.set(0, 2);
            x.submit(READ, 1, 9, 0);
        }, ReelConsole::nextReel);
    }

    private static void minutesToDoneTells() {
        int[] due = {NONE, 3, 0, 9, NONE, 21};
        for (int job = 0; job < due.length; job++) {
            int number = job;
            Check.query("minutesToDone(" + job + ")", due[job], QueriesTest::busy, x -> x.minutesToDone(number));
        }
        for (int job : NO_JOBS) {
            Check.refused("minutesToDone(" + job + ")", INDEX, QueriesTest::busy, x -> x.minutesToDone(job));
        }
        Check.query("minutesToDone of a new job", 21, x -> x.submit(READ, 1, 20, 0), x -> x.minutesToDone(0));
        Check.query("minutesToDone behind another job", 4, x -> {
            x.submit(READ, 1, 1, 0);
            x.submit(READ, 1, 2, 0);
        }, x -> x.minutesToDone(1));
        Check.query("minutesToDone behind a job of a higher priority", 7, x -> {
            x.submit(READ, 1, 1, 4);
            x.submit(READ, 1, 5, 5);
        }, x -> x.minutesToDone(0));
        Check.query("minutesToDone of a stuck job that another makes a label for", 5, x -> {
            x.submit(READ, 30, 2, 9);
            x.submit(CREATE, 30, 2, 0);
        }, x -> x.minutesToDone(0));
    }

    private static void minutesToDoneKnowsSendBacks() {
        Check.query("minutesToDone with a slip first", 3, x -> {
            x.set(0, 2);
            x.submit(READ, 1, 1, 0);
            x.pass(2);
            x.submit(READ, 1, 1, 0);
        }, x -> x.minutesToDone(1));
        Check.query("minutesToDone of a job whose reels are all sent back", NONE, x -> {
            x.set(0, 1);
            x.submit(READ, 1, 1, 0);
        }, x -> x.minutesToDone(0));
        Check.query("minutesToDone does not count a day", NONE, x -> {
            x.setSticker(0, 0);
            x.submit(READ, 1, 1, 0);
        }, x -> x.minutesToDone(0));
    }

    /** The longest that twelve jobs on one reel can take; no job that is done at all seems to need 300 minutes. */
    private static void minutesToDoneEndsAt300() {
        Check.query("minutesToDone of the twelfth job on one reel", 241, QueriesTest::twelveOnOneReel,
                x -> x.minutesToDone(11));
        Check.query("minutesToDone of a slip in every minute", NONE, x -> {
            x.set(0, 1);
            twelveOnOneReel(x);
        }, x -> x.minutesToDone(11));
    }

    private static void twelveOnOneReel(ReelConsole x) {
        for (int job = 0; job < 12; job++) {
            x.submit(WRITE, 1, 20, 0);
        }
    }
}

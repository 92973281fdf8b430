/** Promises 2 (submit) and 3 (cancel). */
public final class JobsTest {
    private static final int READ = ReelConsole.READ, WRITE = ReelConsole.WRITE, CREATE = ReelConsole.CREATE;
    private static final Class<IllegalArgumentException> ARGUMENT = IllegalArgumentException.class;
    private static final Class<IllegalStateException> STATE = IllegalStateException.class;
    private static final Class<IndexOutOfBoundsException> INDEX = IndexOutOfBoundsException.class;

    public static void main(String[] args) {
        submitKeepsWhatWasAsked();
        submitRefusesWrongArguments();
        submitRefusesAThirteenthJob();
        submitRefusesAKeptLabel();
        submitRefusesASecondWaitingCreate();
        cancelEndsWaitingAndRunningJobs();
        cancelRefuses();
        Check.end("JobsTest");
    }

    private static void submitKeepsWhatWasAsked() {
        int[][] asked = {
            {READ, 1, 1, 0}, {WRITE, 99, 20, 9}, {CREATE, 50, 7, 4}, {CREATE, 99, 20, 9}, {READ, 99, 20, 9},
        };
        ReelConsole x = new ReelConsole();
        for (int job = 0; job < asked.length; job++) {
            int[] a = asked[job];
            Check.due("submit " + job, job, x.submit(a[0], a[1], a[2], a[3]));
            for (int part = 0; part < 4; part++) {
                Check.due("job(" + job + ", " + part + ")", a[part], x.job(job, part));
            }
            Check.due("a new job waits", 0, x.job(job, 4));
            Check.due("a new job has done no block", 0, x.job(job, 5));
            Check.due("a new job has no reel", ReelConsole.NONE, x.job(job, 6));
            Check.due("no reel was sent back for a new job", 0, x.job(job, 7));
        }
        Check.undoable("submit", 0, r -> { }, r -> r.submit(READ, 1, 1, 0));
        Check.undoable("submit after two", 2, r -> {
            r.submit(READ, 1, 1, 0);
            r.submit(CREATE, 30, 2, 3);
        }, r -> r.submit(WRITE, 1, 1, 9));
        ReelConsole again = Check.after(r -> {
            r.submit(READ, 1, 1, 0);
            r.pass(3);
            r.undo();
            r.undo();
        });
        Check.due("submit after an undone one", 0, again.submit(WRITE, 2, 3, 4));
        Check.due("its state", 0, again.job(0, 4));
        Check.due("its blocks", 0, again.job(0, 5));
    }

    private static void submitRefusesWrongArguments() {
        int[][] wrong = {
            {-1, 1, 1, 0}, {3, 1, 1, 0}, {READ, 0, 1, 0}, {READ, 100, 1, 0}, {READ, -1, 1, 0}, {READ, 1, 0, 0},
            {READ, 1, 21, 0}, {READ, 1, -5, 0}, {READ, 1, 1, -1}, {READ, 1, 1, 10},
            {Integer.MIN_VALUE, Integer.MAX_VALUE, Integer.MIN_VALUE, Integer.MAX_VALUE},
            {Integer.MAX_VALUE, 1, 1, 0}, {READ, Integer.MIN_VALUE, 1, 0}, {READ, 1, Integer.MAX_VALUE, 0},
            {READ, 1, 1, Integer.MIN_VALUE},
        };
        for (int[] a : wrong) {
            String what = "submit(" + a[0] + ", " + a[1] + ", " + a[2] + ", " + a[3] + ")";
            Check.refused(what, ARGUMENT, x -> { }, x -> x.submit(a[0], a[1], a[2], a[3]));
            Check.refused(what + " to a full room", ARGUMENT, JobsTest::fill, x -> x.submit(a[0], a[1], a[2], a[3]));
        }
        Check.refused("a CREATE of a kept label with wrong minutes", ARGUMENT, x -> { },
                x -> x.submit(CREATE, 1, 0, 0));
    }

    private static void fill(ReelConsole x) {
        for (int job = 0; job < 12; job++) {
            x.submit(READ, 1 + job, 1, 0);
        }
    }

    private static void submitRefusesAThirteenthJob() {
        Check.undoable("the twelfth job", 11, x -> {
            for (int job = 0; job < 11; job++) {
                x.submit(READ, 9, 1, 0);
            }
        }, x -> x.submit(CREATE, 10, 1, 0));
        Check.refused("a thirteenth job", STATE, JobsTest::fill, x -> x.submit(READ, 1, 1, 0));
        Check.refused("a thirteenth job when all are done", STATE, x -> {
            fill(x);
            for (int job = 0; job < 12; job++) {
                x.cancel(job);
            }
        }, x -> x.submit(WRITE, 1, 1, 0));
    }

    private static void submitRefusesAKeptLabel() {
        for (int volume = 1; volume <= 6; volume++) {
            int kept = volume;
            Check.refused("CREATE of kept label " + volume, STATE, x -> { }, x -> x.submit(CREATE, kept, 1, 0));
        }
        Check.undoable("CREATE of a label that no reel has", 0, x -> { }, x -> x.submit(CREATE, 7, 1, 0));
        Check.undoable("CREATE of an expired label", 0, ReelConsole::nextDay, x -> x.submit(CREATE, 1, 1, 0));
        Check.undoable("READ of a kept label", 0, x -> { }, x -> x.submit(READ, 1, 1, 0));
        Check.undoable("WRITE of a kept label", 0, x -> { }, x -> x.submit(WRITE, 1, 1, 0));
        Check.undoable("CREATE of a volume that only a sticker names", 0, x -> x.setSticker(0, 40),
                x -> x.submit(CREATE, 40, 1, 0));
        Check.refused("CREATE of a label whose sticker is gone", STATE, x -> x.setSticker(0, 0),
                x -> x.submit(CREATE, 1, 1, 0));
        Check.refused("CREATE of a volume that runs as CREATE", STATE, x -> {
            x.submit(CREATE, 30, 5, 0);
            x.pass(1);
        }, x -> x.submit(CREATE, 30, 5, 0));
        Check.refused("CREATE of a label on its last day", STATE, x -> {
            x.set(1, 1);
            x.submit(CREATE, 30, 1, 0);
            x.pass(2);
            x.nextDay();
        }, x -> x.submit(CREATE, 30, 1, 0));
        Check.undoable("CREATE of a label after its last day", 1, x -> {
            x.set(1, 1);
            x.submit(CREATE, 30, 1, 0);
            x.pass(2);
            x.nextDay();
            x.nextDay();
        }, x -> x.submit(CREATE, 30, 1, 0));
    }

    private static void submitRefusesASecondWaitingCreate() {
        Check.refused("a second waiting CREATE", STATE, x -> x.submit(CREATE, 30, 5, 0),
                x -> x.submit(CREATE, 30, 1, 9));
        Check.undoable("a waiting CREATE of another volume", 1, x -> x.submit(CREATE, 30, 5, 0),
                x -> x.submit(CREATE, 31, 5, 0));
        Check.undoable("a CREATE beside a waiting WRITE", 1, x -> x.submit(WRITE, 30, 5, 0),
                x -> x.submit(CREATE, 30, 5, 0));
        Check.undoable("a WRITE beside a waiting CREATE", 1, x -> x.submit(CREATE, 30, 5, 0),
                x -> x.submit(WRITE, 30, 5, 0));
        Check.undoable("a CREATE after a cancelled one", 1, x -> {
            x.submit(CREATE, 30, 5, 0);
            x.cancel(0);
        }, x -> x.submit(CREATE, 30, 5, 0));
        Check.undoable("a CREATE beside a running one whose reel has expired", 1, x -> {
            x.set(1, 0);
            x.submit(CREATE, 30, 20, 0);
            x.pass(1);
            x.nextDay();
        }, x -> x.submit(CREATE, 30, 5, 0));
    }

    private static void cancelEndsWaitingAndRunningJobs() {
        ReelConsole x = Check.after(r -> {
            r.submit(WRITE, 1, 5, 0);
            r.submit(READ, 2, 5, 0);
            r.pass(3);
        });
        Check.due("cancel of a running job", 2, x.cancel(0));
        Check.due("its state", 3, x.job(0, 4));
        Check.due("its blocks", 2, x.job(0, 5));
        Check.due("its reel", ReelConsole.NONE, x.job(0, 6));
        Check.due("the drive", ReelConsole.NONE, x.reelOn(0));
        Check.due("the reel's drive", ReelConsole.NONE, x.reel(0, 5));
        Check.due("the reel's ring", 1, x.reel(0, 2));
        Check.due("the reel's blocks", 2, x.reel(0, 4));
        Check.due("the other job runs on", 1, x.reelOn(1));
        Check.due("jobs that are done", 0, x.count(10));
        Check.due("minutes", 3, x.count(1));
        x.submit(WRITE, 1, 1, 0);
        x.pass(1);
        Check.due("the empty drive is used again", 0, x.reelOn(0));

        Check.undoable("cancel of a waiting job", 0, r -> r.submit(READ, 1, 1, 0), r -> r.cancel(0));
        Check.undoable("cancel of a running job", 4, r -> {
            r.submit(CREATE, 70, 9, 0);
            r.pass(5);
        }, r -> r.cancel(0));
        Check.undoable("cancel of a job whose blocks were dropped", 19, r -> {
            for (int job = 0; job < 6; job++) {
                r.submit(WRITE, 1, 20, 0);
            }
            r.pass(99);
            r.pass(21);
        }, r -> r.cancel(5));
        Check.due("a cancelled job is not served", ReelConsole.NONE, Check.after(r -> {
            r.submit(READ, 1, 1, 0);
            r.cancel(0);
        }).nextJob());
    }

    private static void cancelRefuses() {
        int[] wrong = {-1, 0, 1, 12, Integer.MIN_VALUE, Integer.MAX_VALUE};
        for (int job : wrong) {
            Check.refused("cancel(" + job + ") in an empty room", INDEX, x -> { }, x -> x.cancel(job));
        }
        Check.refused("cancel(12) in a full room", INDEX, JobsTest::fill, x -> x.cancel(12));
        Check.refused("cancel of a job that is done", STATE, x -> {
            x.submit(READ, 1, 1, 0);
            x.pass(2);
        }, x -> x.cancel(0));
        Check.refused("cancel of a cancelled job", STATE, x -> {
            x.submit(READ, 1, 1, 0);
            x.cancel(0);
        }, x -> x.cancel(0));
        Check.refused("cancel of an undone job", INDEX, x -> {
            x.submit(READ, 1, 1, 0);
            x.undo();
        }, x -> x.cancel(0));
    }
}
